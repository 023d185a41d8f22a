/-! SCRIPTS RUN BY THE MODEL -/
theorem chg_s {σ : Mem} {ν : Nat → Int} (h : σ 0 24 ≠ 0) : chg σ ν = σ := if_neg h
theorem rf_b {S s : Mem} {k m n : Int} : 0 ≤ rfC S s k m n ∧ rfC S s k m n ≤ 3 := by
  unfold rfC rfMo rfRq rfRb rfWt rfVt rfWd rfSh rfRk
  (repeat' split) <;> omega
theorem t2_b {r : Int} (h : r ≠ 0) (hb : 0 ≤ r ∧ r ≤ 3) : 1 ≤ t2 r ∧ t2 r ≤ 3 := by
  unfold t2
  split <;> omega
theorem wt_3 (s : Mem) (n : Int) : rfWt s n = 0 ∨ rfWt s n = 2 ∨ rfWt s n = 3 := by
  unfold rfWt
  (repeat' split) <;> omega
/-- all but 'thrown' and 'done' is the same -/
def smD (σ' σ : Mem) : Prop := ∀ r j : Nat, (r ≠ 0 ∨ (j ≠ 7 ∧ j ≠ 23)) → σ' r j = σ r j
theorem smD_r (σ : Mem) : smD σ σ := fun _ _ _ => rfl
theorem smD_t {a b c : Mem} (h : smD a b) (g : smD b c) : smD a c := fun r j w => (h r j w).trans (g r j w)
theorem smD_w {σ : Mem} {i : Nat} {v : Int} (h : i = 7 ∨ i = 23) : smD (wr σ 0 i v) σ := fun r j w => wr_n (by omega)
section MRun
variable {S s σ μ τ : Mem} {ν : Nat → Int} {x : Rst} {b9 : Nat}
set_option maxRecDepth 8000 in
set_option maxHeartbeats 4000000 in
theorem m_does {i : Nat} (hi : i < 30) (hk : 0 ≤ τ 5 i ∧ τ 5 i ≤ 7) (hc : crel τ σ i) (h24 : σ 0 24 ≠ 0) (h6 : 0 ≤ σ 0 6 ∧ σ 0 6 ≤ 8) (hr : rel S s ν) (hS : wfS S) (hC : wfC S s) {Q : Option Value → Mem → Prop} {X : String → Mem → Prop} (K : rfC S s (τ 5 i) (τ 6 i) (τ 8 i) = 0 → ∀ ν' a, rel S (pfC S s (τ 5 i) (τ 6 i) (τ 7 i) (τ 8 i)) ν' → Q (some (.int (iI a))) (md (wr σ 0 7 0) ν' μ)) (K2 : rfC S s (τ 5 i) (τ 6 i) (τ 8 i) ≠ 0 → ∀ t, 1 ≤ t ∧ t ≤ 3 → Q (some (.int (iI 0))) (md (wr (wr σ 0 7 0) 0 7 t) ν μ)) : mt 289 7 0 0 mX11_does [.ref 276, .int (iI (i : Nat))] Q X (md σ ν μ) := by
  show go 289 7 0 0 mX11_does Q X 0 [.ref 276, .int (iI (i : Nat)), .null, .null] [] _
  have hk9 : τ 5 i = 0 ∨ τ 5 i = 1 ∨ τ 5 i = 2 ∨ τ 5 i = 3 ∨ τ 5 i = 4 ∨ τ 5 i = 5 ∨ τ 5 i = 6 ∨ τ 5 i = 7 := by omega
  have hb := rf_b (S := S) (s := s) (k := τ 5 i) (m := τ 6 i) (n := τ 8 i)
  have h7 : wr σ 0 7 0 0 7 = 0 := wr_s _ _ _ _
  have h6' : 0 ≤ wr σ 0 7 0 0 6 ∧ wr σ 0 7 0 0 6 ≤ 8 := by rw [wr_ni (by decide)]; exact h6
  have hcg : chg (wr σ 0 7 0) ν = wr σ 0 7 0 := chg_s (by rw [wr_ni (by decide)]; exact h24)
  obtain ⟨q8, qb, q9, q10, q11, -⟩ := hc
  unfold rfC at K K2 hb
  unfold pfC at K
  rcases hk9 with hk9 | hk9 | hk9 | hk9 | hk9 | hk9 | hk9 | hk9
  · skip
    rw [hk9, if_pos rfl] at K
    rw [hk9, if_pos rfl] at K2 hb
    have r6 : rng (σ 9 i) → rng (τ 6 i) := fun h => by rw [← q9 (by omega)]; exact h
    refine go_aload_n (y := mX11_does) (pc := 0) dX11_does_0 rfl rfl ?_
    refine go_iconst (y := mX11_does) (pc := 1) dX11_does_1 ?_
    refine go_mput (y := mX11_does) (pc := 2) dX11_does_2 fp_X11_83 rfl rfl (by decide) (by omega) ?_
    refine go_aload_n (y := mX11_does) (pc := 5) dX11_does_5 rfl rfl ?_
    refine go_mref (y := mX11_does) (pc := 6) dX11_does_6 fl_X11_39 rfl rfl (by decide) ?_
    refine go_iload_n (y := mX11_does) (pc := 9) dX11_does_9 rfl rfl ?_
    refine go_mial (y := mX11_does) (pc := 10) (r := 9) (k := i) dX11_does_10 (by decide) (by decide) rfl (by decide) rfl (by omega) (by decide) (fun r10 => ?_)
    refine go_top (b := τ 6 i) ((by rw [wr_na (by decide)]; exact q9 (by omega))) (fun t10 => ?_)
    refine go_istore_n (y := mX11_does) (pc := 11) dX11_does_11 rfl (by decide) ?_
    refine go_aload_n (y := mX11_does) (pc := 12) dX11_does_12 rfl rfl ?_
    refine go_mref (y := mX11_does) (pc := 13) dX11_does_13 fl_X11_42 rfl rfl (by decide) ?_
    refine go_iload_n (y := mX11_does) (pc := 16) dX11_does_16 rfl rfl ?_
    refine go_mial (y := mX11_does) (pc := 17) (r := 10) (k := i) dX11_does_17 (by decide) (by decide) rfl (by decide) rfl (by omega) (by decide) (fun r17 => ?_)
    refine go_top (b := τ 8 i) ((by rw [wr_na (by decide)]; exact q10 (by omega))) (fun t17 => ?_)
    refine go_istore_n (y := mX11_does) (pc := 18) dX11_does_18 rfl (by decide) ?_
    refine go_aload_n (y := mX11_does) (pc := 19) dX11_does_19 rfl rfl ?_
    refine go_mref (y := mX11_does) (pc := 20) dX11_does_20 fl_X11_36 rfl rfl (by decide) ?_
    refine go_iload_n (y := mX11_does) (pc := 23) dX11_does_23 rfl rfl ?_
    refine go_mial (y := mX11_does) (pc := 24) (r := 8) (k := i) dX11_does_24 (by decide) (by decide) rfl (by decide) rfl (by omega) (by decide) (fun r24 => ?_)
    refine go_top (b := 0) ((by rw [wr_na (by decide), q8]; exact hk9)) (fun t24 => ?_)
    refine go_tbIn (y := mX11_does) (pc := 25) (off := 43) (tgt := 68) dX11_does_25 (by decide) (by decide) (by decide) rfl (by decide) ?_
    refine go_aload_n (y := mX11_does) (pc := 68) dX11_does_68 rfl rfl ?_
    refine go_iload_n (y := mX11_does) (pc := 69) dX11_does_69 rfl rfl ?_
    refine go_iload_n (y := mX11_does) (pc := 70) dX11_does_70 rfl rfl ?_
    refine go_callV2 (y := mX11_does) (pc := 71) (y' := mX11_proposing) (kc2 := 0) (ks2 := 0) dX11_does_71 ml_X11_298 ok_X11_proposing (show shp 276 = _ from rfl) ⟨_, _, rfl⟩ (by decide) ⟨rfl, rfl⟩ (by decide) (Nat.le_of_ble_eq_true rfl) rfl (m_proposing (by omega) (by omega) h7 h6' hr hS hC (fun g ν71 e71 => ?_) (fun g => ?_))
    · skip
      refine go_ireturn (y := mX11_does) (pc := 74) dX11_does_74 rfl ?_
      rw [hcg]
      exact K g ν71 _ e71
    · skip
      refine go_ireturn (y := mX11_does) (pc := 74) dX11_does_74 rfl ?_
      exact K2 g _ ⟨by omega, by omega⟩
  · skip
    rw [hk9, if_neg (show ¬ (1 : Int) = 0 by decide), if_pos rfl] at K
    rw [hk9, if_neg (show ¬ (1 : Int) = 0 by decide), if_pos rfl] at K2 hb
    have r6 : rng (σ 9 i) → rng (τ 6 i) := fun h => by rw [← q9 (by omega)]; exact h
    refine go_aload_n (y := mX11_does) (pc := 0) dX11_does_0 rfl rfl ?_
    refine go_iconst (y := mX11_does) (pc := 1) dX11_does_1 ?_
    refine go_mput (y := mX11_does) (pc := 2) dX11_does_2 fp_X11_83 rfl rfl (by decide) (by omega) ?_
    refine go_aload_n (y := mX11_does) (pc := 5) dX11_does_5 rfl rfl ?_
    refine go_mref (y := mX11_does) (pc := 6) dX11_does_6 fl_X11_39 rfl rfl (by decide) ?_
    refine go_iload_n (y := mX11_does) (pc := 9) dX11_does_9 rfl rfl ?_
    refine go_mial (y := mX11_does) (pc := 10) (r := 9) (k := i) dX11_does_10 (by decide) (by decide) rfl (by decide) rfl (by omega) (by decide) (fun r10 => ?_)
    refine go_top (b := τ 6 i) ((by rw [wr_na (by decide)]; exact q9 (by omega))) (fun t10 => ?_)
    refine go_istore_n (y := mX11_does) (pc := 11) dX11_does_11 rfl (by decide) ?_
    refine go_aload_n (y := mX11_does) (pc := 12) dX11_does_12 rfl rfl ?_
    refine go_mref (y := mX11_does) (pc := 13) dX11_does_13 fl_X11_42 rfl rfl (by decide) ?_
    refine go_iload_n (y := mX11_does) (pc := 16) dX11_does_16 rfl rfl ?_
    refine go_mial (y := mX11_does) (pc := 17) (r := 10) (k := i) dX11_does_17 (by decide) (by decide) rfl (by decide) rfl (by omega) (by decide) (fun r17 => ?_)
    refine go_top (b := τ 8 i) ((by rw [wr_na (by decide)]; exact q10 (by omega))) (fun t17 => ?_)
    refine go_istore_n (y := mX11_does) (pc := 18) dX11_does_18 rfl (by decide) ?_
    refine go_aload_n (y := mX11_does) (pc := 19) dX11_does_19 rfl rfl ?_
    refine go_mref (y := mX11_does) (pc := 20) dX11_does_20 fl_X11_36 rfl rfl (by decide) ?_
    refine go_iload_n (y := mX11_does) (pc := 23) dX11_does_23 rfl rfl ?_
    refine go_mial (y := mX11_does) (pc := 24) (r := 8) (k := i) dX11_does_24 (by decide) (by decide) rfl (by decide) rfl (by omega) (by decide) (fun r24 => ?_)
    refine go_top (b := 1) ((by rw [wr_na (by decide), q8]; exact hk9)) (fun t24 => ?_)
    refine go_tbIn (y := mX11_does) (pc := 25) (off := 50) (tgt := 75) dX11_does_25 (by decide) (by decide) (by decide) rfl (by decide) ?_
    refine go_aload_n (y := mX11_does) (pc := 75) dX11_does_75 rfl rfl ?_
    refine go_iload_n (y := mX11_does) (pc := 76) dX11_does_76 rfl rfl ?_
    refine go_iload_n (y := mX11_does) (pc := 77) dX11_does_77 rfl rfl ?_
    refine go_aload_n (y := mX11_does) (pc := 78) dX11_does_78 rfl rfl ?_
    refine go_mref (y := mX11_does) (pc := 79) dX11_does_79 fl_X11_45 rfl rfl (by decide) ?_
    refine go_iload_n (y := mX11_does) (pc := 82) dX11_does_82 rfl rfl ?_
    refine go_mial (y := mX11_does) (pc := 83) (r := 11) (k := i) dX11_does_83 (by decide) (by decide) rfl (by decide) rfl (by omega) (by decide) (fun r83 => ?_)
    refine go_top (b := sdm (τ 7 i)) ((by rw [wr_na (by decide)]; exact (q11 hk9).1)) (fun t83 => ?_)
    refine go_callV3 (y := mX11_does) (pc := 84) (y' := mX11_asking) (kc2 := 0) (ks2 := 0) dX11_does_84 ml_X11_301 ok_X11_asking (show shp 276 = _ from rfl) ⟨_, _, rfl⟩ (by decide) ⟨rfl, rfl, rfl⟩ (by decide) (Nat.le_of_ble_eq_true rfl) rfl (m_asking (d := τ 7 i) (by omega) (by omega) (q11 hk9).2 h7 h6' hr hS hC (fun g ν84 e84 => ?_) (fun g => ?_))
    · skip
      refine go_ireturn (y := mX11_does) (pc := 87) dX11_does_87 rfl ?_
      rw [hcg]
      exact K g ν84 _ e84
    · skip
      refine go_ireturn (y := mX11_does) (pc := 87) dX11_does_87 rfl ?_
      exact K2 g _ (t2_b g hb)
  · skip
    rw [hk9, if_neg (show ¬ (2 : Int) = 0 by decide), if_neg (show ¬ (2 : Int) = 1 by decide), if_pos rfl] at K
    rw [hk9, if_neg (show ¬ (2 : Int) = 0 by decide), if_neg (show ¬ (2 : Int) = 1 by decide), if_pos rfl] at K2 hb
    have r6 : rng (σ 9 i) → rng (τ 6 i) := fun h => by rw [← q9 (by omega)]; exact h
    refine go_aload_n (y := mX11_does) (pc := 0) dX11_does_0 rfl rfl ?_
    refine go_iconst (y := mX11_does) (pc := 1) dX11_does_1 ?_
    refine go_mput (y := mX11_does) (pc := 2) dX11_does_2 fp_X11_83 rfl rfl (by decide) (by omega) ?_
    refine go_aload_n (y := mX11_does) (pc := 5) dX11_does_5 rfl rfl ?_
    refine go_mref (y := mX11_does) (pc := 6) dX11_does_6 fl_X11_39 rfl rfl (by decide) ?_
    refine go_iload_n (y := mX11_does) (pc := 9) dX11_does_9 rfl rfl ?_
    refine go_mial (y := mX11_does) (pc := 10) (r := 9) (k := i) dX11_does_10 (by decide) (by decide) rfl (by decide) rfl (by omega) (by decide) (fun r10 => ?_)
    refine go_top (b := τ 6 i) ((by rw [wr_na (by decide)]; exact q9 (by omega))) (fun t10 => ?_)
    refine go_istore_n (y := mX11_does) (pc := 11) dX11_does_11 rfl (by decide) ?_
    refine go_aload_n (y := mX11_does) (pc := 12) dX11_does_12 rfl rfl ?_
    refine go_mref (y := mX11_does) (pc := 13) dX11_does_13 fl_X11_42 rfl rfl (by decide) ?_
    refine go_iload_n (y := mX11_does) (pc := 16) dX11_does_16 rfl rfl ?_
    refine go_mial (y := mX11_does) (pc := 17) (r := 10) (k := i) dX11_does_17 (by decide) (by decide) rfl (by decide) rfl (by omega) (by decide) (fun r17 => ?_)
    refine go_top (b := τ 8 i) ((by rw [wr_na (by decide)]; exact q10 (by omega))) (fun t17 => ?_)
    refine go_istore_n (y := mX11_does) (pc := 18) dX11_does_18 rfl (by decide) ?_
    refine go_aload_n (y := mX11_does) (pc := 19) dX11_does_19 rfl rfl ?_
    refine go_mref (y := mX11_does) (pc := 20) dX11_does_20 fl_X11_36 rfl rfl (by decide) ?_
    refine go_iload_n (y := mX11_does) (pc := 23) dX11_does_23 rfl rfl ?_
    refine go_mial (y := mX11_does) (pc := 24) (r := 8) (k := i) dX11_does_24 (by decide) (by decide) rfl (by decide) rfl (by omega) (by decide) (fun r24 => ?_)
    refine go_top (b := 2) ((by rw [wr_na (by decide), q8]; exact hk9)) (fun t24 => ?_)
    refine go_tbIn (y := mX11_does) (pc := 25) (off := 63) (tgt := 88) dX11_does_25 (by decide) (by decide) (by decide) rfl (by decide) ?_
    refine go_aload_n (y := mX11_does) (pc := 88) dX11_does_88 rfl rfl ?_
    refine go_iload_n (y := mX11_does) (pc := 89) dX11_does_89 rfl rfl ?_
    refine go_iload_n (y := mX11_does) (pc := 90) dX11_does_90 rfl rfl ?_
    refine go_callV2 (y := mX11_does) (pc := 91) (y' := mX11_rebutting) (kc2 := 0) (ks2 := 0) dX11_does_91 ml_X11_305 ok_X11_rebutting (show shp 276 = _ from rfl) ⟨_, _, rfl⟩ (by decide) ⟨rfl, rfl⟩ (by decide) (Nat.le_of_ble_eq_true rfl) rfl (m_rebutting (by omega) (by omega) h7 h6' hr hS hC (fun g ν91 e91 => ?_) (fun g => ?_))
    · skip
      refine go_ireturn (y := mX11_does) (pc := 94) dX11_does_94 rfl ?_
      rw [hcg]
      exact K g ν91 _ e91
    · skip
      refine go_ireturn (y := mX11_does) (pc := 94) dX11_does_94 rfl ?_
      exact K2 g _ (t2_b g hb)
  · skip
    rw [hk9, if_neg (show ¬ (3 : Int) = 0 by decide), if_neg (show ¬ (3 : Int) = 1 by decide), if_neg (show ¬ (3 : Int) = 2 by decide), if_pos rfl] at K
    rw [hk9, if_neg (show ¬ (3 : Int) = 0 by decide), if_neg (show ¬ (3 : Int) = 1 by decide), if_neg (show ¬ (3 : Int) = 2 by decide), if_pos rfl] at K2 hb
    refine go_aload_n (y := mX11_does) (pc := 0) dX11_does_0 rfl rfl ?_
    refine go_iconst (y := mX11_does) (pc := 1) dX11_does_1 ?_
    refine go_mput (y := mX11_does) (pc := 2) dX11_does_2 fp_X11_83 rfl rfl (by decide) (by omega) ?_
    refine go_aload_n (y := mX11_does) (pc := 5) dX11_does_5 rfl rfl ?_
    refine go_mref (y := mX11_does) (pc := 6) dX11_does_6 fl_X11_39 rfl rfl (by decide) ?_
    refine go_iload_n (y := mX11_does) (pc := 9) dX11_does_9 rfl rfl ?_
    refine go_mial (y := mX11_does) (pc := 10) (r := 9) (k := i) dX11_does_10 (by decide) (by decide) rfl (by decide) rfl (by omega) (by decide) (fun r10 => ?_)
    refine go_top (b := σ 9 i) ((wr_na (by decide))) (fun t10 => ?_)
    refine go_istore_n (y := mX11_does) (pc := 11) dX11_does_11 rfl (by decide) ?_
    refine go_aload_n (y := mX11_does) (pc := 12) dX11_does_12 rfl rfl ?_
    refine go_mref (y := mX11_does) (pc := 13) dX11_does_13 fl_X11_42 rfl rfl (by decide) ?_
    refine go_iload_n (y := mX11_does) (pc := 16) dX11_does_16 rfl rfl ?_
    refine go_mial (y := mX11_does) (pc := 17) (r := 10) (k := i) dX11_does_17 (by decide) (by decide) rfl (by decide) rfl (by omega) (by decide) (fun r17 => ?_)
    refine go_top (b := τ 8 i) ((by rw [wr_na (by decide)]; exact q10 (by omega))) (fun t17 => ?_)
    refine go_istore_n (y := mX11_does) (pc := 18) dX11_does_18 rfl (by decide) ?_
    refine go_aload_n (y := mX11_does) (pc := 19) dX11_does_19 rfl rfl ?_
    refine go_mref (y := mX11_does) (pc := 20) dX11_does_20 fl_X11_36 rfl rfl (by decide) ?_
    refine go_iload_n (y := mX11_does) (pc := 23) dX11_does_23 rfl rfl ?_
    refine go_mial (y := mX11_does) (pc := 24) (r := 8) (k := i) dX11_does_24 (by decide) (by decide) rfl (by decide) rfl (by omega) (by decide) (fun r24 => ?_)
    refine go_top (b := 3) ((by rw [wr_na (by decide), q8]; exact hk9)) (fun t24 => ?_)
    refine go_tbIn (y := mX11_does) (pc := 25) (off := 70) (tgt := 95) dX11_does_25 (by decide) (by decide) (by decide) rfl (by decide) ?_
    refine go_aload_n (y := mX11_does) (pc := 95) dX11_does_95 rfl rfl ?_
    refine go_iload_n (y := mX11_does) (pc := 96) dX11_does_96 rfl rfl ?_
    refine go_callV1 (y := mX11_does) (pc := 97) (y' := mX11_advancing) (kc2 := 0) (ks2 := 0) dX11_does_97 ml_X11_308 ok_X11_advancing (show shp 276 = _ from rfl) ⟨_, _, rfl⟩ (by decide) rfl (by decide) (Nat.le_of_ble_eq_true rfl) rfl (m_advancing (by omega) h7 h6' hr hS hC (fun g ν97 e97 => ?_) (fun g => ?_))
    · skip
      refine go_ireturn (y := mX11_does) (pc := 100) dX11_does_100 rfl ?_
      rw [hcg]
      exact K g ν97 _ e97
    · skip
      refine go_ireturn (y := mX11_does) (pc := 100) dX11_does_100 rfl ?_
      exact K2 g _ (by have := wt_3 s (τ 8 i); omega)
  · skip
    rw [hk9, if_neg (show ¬ (4 : Int) = 0 by decide), if_neg (show ¬ (4 : Int) = 1 by decide), if_neg (show ¬ (4 : Int) = 2 by decide), if_neg (show ¬ (4 : Int) = 3 by decide), if_pos rfl] at K
    rw [hk9, if_neg (show ¬ (4 : Int) = 0 by decide), if_neg (show ¬ (4 : Int) = 1 by decide), if_neg (show ¬ (4 : Int) = 2 by decide), if_neg (show ¬ (4 : Int) = 3 by decide), if_pos rfl] at K2 hb
    refine go_aload_n (y := mX11_does) (pc := 0) dX11_does_0 rfl rfl ?_
    refine go_iconst (y := mX11_does) (pc := 1) dX11_does_1 ?_
    refine go_mput (y := mX11_does) (pc := 2) dX11_does_2 fp_X11_83 rfl rfl (by decide) (by omega) ?_
    refine go_aload_n (y := mX11_does) (pc := 5) dX11_does_5 rfl rfl ?_
    refine go_mref (y := mX11_does) (pc := 6) dX11_does_6 fl_X11_39 rfl rfl (by decide) ?_
    refine go_iload_n (y := mX11_does) (pc := 9) dX11_does_9 rfl rfl ?_
    refine go_mial (y := mX11_does) (pc := 10) (r := 9) (k := i) dX11_does_10 (by decide) (by decide) rfl (by decide) rfl (by omega) (by decide) (fun r10 => ?_)
    refine go_top (b := σ 9 i) ((wr_na (by decide))) (fun t10 => ?_)
    refine go_istore_n (y := mX11_does) (pc := 11) dX11_does_11 rfl (by decide) ?_
    refine go_aload_n (y := mX11_does) (pc := 12) dX11_does_12 rfl rfl ?_
    refine go_mref (y := mX11_does) (pc := 13) dX11_does_13 fl_X11_42 rfl rfl (by decide) ?_
    refine go_iload_n (y := mX11_does) (pc := 16) dX11_does_16 rfl rfl ?_
    refine go_mial (y := mX11_does) (pc := 17) (r := 10) (k := i) dX11_does_17 (by decide) (by decide) rfl (by decide) rfl (by omega) (by decide) (fun r17 => ?_)
    refine go_top (b := τ 8 i) ((by rw [wr_na (by decide)]; exact q10 (by omega))) (fun t17 => ?_)
    refine go_istore_n (y := mX11_does) (pc := 18) dX11_does_18 rfl (by decide) ?_
    refine go_aload_n (y := mX11_does) (pc := 19) dX11_does_19 rfl rfl ?_
    refine go_mref (y := mX11_does) (pc := 20) dX11_does_20 fl_X11_36 rfl rfl (by decide) ?_
    refine go_iload_n (y := mX11_does) (pc := 23) dX11_does_23 rfl rfl ?_
    refine go_mial (y := mX11_does) (pc := 24) (r := 8) (k := i) dX11_does_24 (by decide) (by decide) rfl (by decide) rfl (by omega) (by decide) (fun r24 => ?_)
    refine go_top (b := 4) ((by rw [wr_na (by decide), q8]; exact hk9)) (fun t24 => ?_)
    refine go_tbIn (y := mX11_does) (pc := 25) (off := 76) (tgt := 101) dX11_does_25 (by decide) (by decide) (by decide) rfl (by decide) ?_
    refine go_aload_n (y := mX11_does) (pc := 101) dX11_does_101 rfl rfl ?_
    refine go_iload_n (y := mX11_does) (pc := 102) dX11_does_102 rfl rfl ?_
    refine go_callV1 (y := mX11_does) (pc := 103) (y' := mX11_voting) (kc2 := 0) (ks2 := 0) dX11_does_103 ml_X11_311 ok_X11_voting (show shp 276 = _ from rfl) ⟨_, _, rfl⟩ (by decide) rfl (by decide) (Nat.le_of_ble_eq_true rfl) rfl (m_voting (by omega) h7 h6' hr hS hC (fun g ν103 e103 => ?_) (fun g => ?_))
    · skip
      refine go_ireturn (y := mX11_does) (pc := 106) dX11_does_106 rfl ?_
      rw [hcg]
      exact K g ν103 _ e103
    · skip
      refine go_ireturn (y := mX11_does) (pc := 106) dX11_does_106 rfl ?_
      exact K2 g _ (t2_b g hb)
  · skip
    rw [hk9, if_neg (show ¬ (5 : Int) = 0 by decide), if_neg (show ¬ (5 : Int) = 1 by decide), if_neg (show ¬ (5 : Int) = 2 by decide), if_neg (show ¬ (5 : Int) = 3 by decide), if_neg (show ¬ (5 : Int) = 4 by decide), if_pos rfl] at K
    rw [hk9, if_neg (show ¬ (5 : Int) = 0 by decide), if_neg (show ¬ (5 : Int) = 1 by decide), if_neg (show ¬ (5 : Int) = 2 by decide), if_neg (show ¬ (5 : Int) = 3 by decide), if_neg (show ¬ (5 : Int) = 4 by decide), if_pos rfl] at K2 hb
    refine go_aload_n (y := mX11_does) (pc := 0) dX11_does_0 rfl rfl ?_
    refine go_iconst (y := mX11_does) (pc := 1) dX11_does_1 ?_
    refine go_mput (y := mX11_does) (pc := 2) dX11_does_2 fp_X11_83 rfl rfl (by decide) (by omega) ?_
    refine go_aload_n (y := mX11_does) (pc := 5) dX11_does_5 rfl rfl ?_
    refine go_mref (y := mX11_does) (pc := 6) dX11_does_6 fl_X11_39 rfl rfl (by decide) ?_
    refine go_iload_n (y := mX11_does) (pc := 9) dX11_does_9 rfl rfl ?_
    refine go_mial (y := mX11_does) (pc := 10) (r := 9) (k := i) dX11_does_10 (by decide) (by decide) rfl (by decide) rfl (by omega) (by decide) (fun r10 => ?_)
    refine go_top (b := σ 9 i) ((wr_na (by decide))) (fun t10 => ?_)
    refine go_istore_n (y := mX11_does) (pc := 11) dX11_does_11 rfl (by decide) ?_
    refine go_aload_n (y := mX11_does) (pc := 12) dX11_does_12 rfl rfl ?_
    refine go_mref (y := mX11_does) (pc := 13) dX11_does_13 fl_X11_42 rfl rfl (by decide) ?_
    refine go_iload_n (y := mX11_does) (pc := 16) dX11_does_16 rfl rfl ?_
    refine go_mial (y := mX11_does) (pc := 17) (r := 10) (k := i) dX11_does_17 (by decide) (by decide) rfl (by decide) rfl (by omega) (by decide) (fun r17 => ?_)
    refine go_top (b := τ 8 i) ((by rw [wr_na (by decide)]; exact q10 (by omega))) (fun t17 => ?_)
    refine go_istore_n (y := mX11_does) (pc := 18) dX11_does_18 rfl (by decide) ?_
    refine go_aload_n (y := mX11_does) (pc := 19) dX11_does_19 rfl rfl ?_
    refine go_mref (y := mX11_does) (pc := 20) dX11_does_20 fl_X11_36 rfl rfl (by decide) ?_
    refine go_iload_n (y := mX11_does) (pc := 23) dX11_does_23 rfl rfl ?_
    refine go_mial (y := mX11_does) (pc := 24) (r := 8) (k := i) dX11_does_24 (by decide) (by decide) rfl (by decide) rfl (by omega) (by decide) (fun r24 => ?_)
    refine go_top (b := 5) ((by rw [wr_na (by decide), q8]; exact hk9)) (fun t24 => ?_)
    refine go_tbIn (y := mX11_does) (pc := 25) (off := 82) (tgt := 107) dX11_does_25 (by decide) (by decide) (by decide) rfl (by decide) ?_
    refine go_aload_n (y := mX11_does) (pc := 107) dX11_does_107 rfl rfl ?_
    refine go_iload_n (y := mX11_does) (pc := 108) dX11_does_108 rfl rfl ?_
    refine go_callV1 (y := mX11_does) (pc := 109) (y' := mX11_withdrawing) (kc2 := 0) (ks2 := 0) dX11_does_109 ml_X11_314 ok_X11_withdrawing (show shp 276 = _ from rfl) ⟨_, _, rfl⟩ (by decide) rfl (by decide) (Nat.le_of_ble_eq_true rfl) rfl (m_withdrawing (by omega) h7 h6' hr hS hC (fun g ν109 e109 => ?_) (fun g => ?_))
    · skip
      refine go_ireturn (y := mX11_does) (pc := 112) dX11_does_112 rfl ?_
      rw [hcg]
      exact K g ν109 _ e109
    · skip
      refine go_ireturn (y := mX11_does) (pc := 112) dX11_does_112 rfl ?_
      exact K2 g _ (t2_b g hb)
  · skip
    rw [hk9, if_neg (show ¬ (6 : Int) = 0 by decide), if_neg (show ¬ (6 : Int) = 1 by decide), if_neg (show ¬ (6 : Int) = 2 by decide), if_neg (show ¬ (6 : Int) = 3 by decide), if_neg (show ¬ (6 : Int) = 4 by decide), if_neg (show ¬ (6 : Int) = 5 by decide), if_pos rfl] at K
    rw [hk9, if_neg (show ¬ (6 : Int) = 0 by decide), if_neg (show ¬ (6 : Int) = 1 by decide), if_neg (show ¬ (6 : Int) = 2 by decide), if_neg (show ¬ (6 : Int) = 3 by decide), if_neg (show ¬ (6 : Int) = 4 by decide), if_neg (show ¬ (6 : Int) = 5 by decide), if_pos rfl] at K2 hb
    have r6 : rng (σ 9 i) → rng (τ 6 i) := fun h => by rw [← q9 (by omega)]; exact h
    refine go_aload_n (y := mX11_does) (pc := 0) dX11_does_0 rfl rfl ?_
    refine go_iconst (y := mX11_does) (pc := 1) dX11_does_1 ?_
    refine go_mput (y := mX11_does) (pc := 2) dX11_does_2 fp_X11_83 rfl rfl (by decide) (by omega) ?_
    refine go_aload_n (y := mX11_does) (pc := 5) dX11_does_5 rfl rfl ?_
    refine go_mref (y := mX11_does) (pc := 6) dX11_does_6 fl_X11_39 rfl rfl (by decide) ?_
    refine go_iload_n (y := mX11_does) (pc := 9) dX11_does_9 rfl rfl ?_
    refine go_mial (y := mX11_does) (pc := 10) (r := 9) (k := i) dX11_does_10 (by decide) (by decide) rfl (by decide) rfl (by omega) (by decide) (fun r10 => ?_)
    refine go_top (b := τ 6 i) ((by rw [wr_na (by decide)]; exact q9 (by omega))) (fun t10 => ?_)
    refine go_istore_n (y := mX11_does) (pc := 11) dX11_does_11 rfl (by decide) ?_
    refine go_aload_n (y := mX11_does) (pc := 12) dX11_does_12 rfl rfl ?_
    refine go_mref (y := mX11_does) (pc := 13) dX11_does_13 fl_X11_42 rfl rfl (by decide) ?_
    refine go_iload_n (y := mX11_does) (pc := 16) dX11_does_16 rfl rfl ?_
    refine go_mial (y := mX11_does) (pc := 17) (r := 10) (k := i) dX11_does_17 (by decide) (by decide) rfl (by decide) rfl (by omega) (by decide) (fun r17 => ?_)
    refine go_top (b := σ 10 i) ((wr_na (by decide))) (fun t17 => ?_)
    refine go_istore_n (y := mX11_does) (pc := 18) dX11_does_18 rfl (by decide) ?_
    refine go_aload_n (y := mX11_does) (pc := 19) dX11_does_19 rfl rfl ?_
    refine go_mref (y := mX11_does) (pc := 20) dX11_does_20 fl_X11_36 rfl rfl (by decide) ?_
    refine go_iload_n (y := mX11_does) (pc := 23) dX11_does_23 rfl rfl ?_
    refine go_mial (y := mX11_does) (pc := 24) (r := 8) (k := i) dX11_does_24 (by decide) (by decide) rfl (by decide) rfl (by omega) (by decide) (fun r24 => ?_)
    refine go_top (b := 6) ((by rw [wr_na (by decide), q8]; exact hk9)) (fun t24 => ?_)
    refine go_tbIn (y := mX11_does) (pc := 25) (off := 88) (tgt := 113) dX11_does_25 (by decide) (by decide) (by decide) rfl (by decide) ?_
    refine go_aload_n (y := mX11_does) (pc := 113) dX11_does_113 rfl rfl ?_
    refine go_iload_n (y := mX11_does) (pc := 114) dX11_does_114 rfl rfl ?_
    refine go_callV1 (y := mX11_does) (pc := 115) (y' := mX11_sharpening) (kc2 := 0) (ks2 := 0) dX11_does_115 ml_X11_317 ok_X11_sharpening (show shp 276 = _ from rfl) ⟨_, _, rfl⟩ (by decide) rfl (by decide) (Nat.le_of_ble_eq_true rfl) rfl (m_sharpening (by omega) h7 h6' hr hS hC (fun g ν115 e115 => ?_) (fun g => ?_))
    · skip
      refine go_ireturn (y := mX11_does) (pc := 118) dX11_does_118 rfl ?_
      rw [hcg]
      exact K g ν115 _ e115
    · skip
      refine go_ireturn (y := mX11_does) (pc := 118) dX11_does_118 rfl ?_
      exact K2 g _ (t2_b g hb)
  · skip
    rw [hk9, if_neg (show ¬ (7 : Int) = 0 by decide), if_neg (show ¬ (7 : Int) = 1 by decide), if_neg (show ¬ (7 : Int) = 2 by decide), if_neg (show ¬ (7 : Int) = 3 by decide), if_neg (show ¬ (7 : Int) = 4 by decide), if_neg (show ¬ (7 : Int) = 5 by decide), if_neg (show ¬ (7 : Int) = 6 by decide)] at K
    rw [hk9, if_neg (show ¬ (7 : Int) = 0 by decide), if_neg (show ¬ (7 : Int) = 1 by decide), if_neg (show ¬ (7 : Int) = 2 by decide), if_neg (show ¬ (7 : Int) = 3 by decide), if_neg (show ¬ (7 : Int) = 4 by decide), if_neg (show ¬ (7 : Int) = 5 by decide), if_neg (show ¬ (7 : Int) = 6 by decide)] at K2 hb
    refine go_aload_n (y := mX11_does) (pc := 0) dX11_does_0 rfl rfl ?_
    refine go_iconst (y := mX11_does) (pc := 1) dX11_does_1 ?_
    refine go_mput (y := mX11_does) (pc := 2) dX11_does_2 fp_X11_83 rfl rfl (by decide) (by omega) ?_
    refine go_aload_n (y := mX11_does) (pc := 5) dX11_does_5 rfl rfl ?_
    refine go_mref (y := mX11_does) (pc := 6) dX11_does_6 fl_X11_39 rfl rfl (by decide) ?_
    refine go_iload_n (y := mX11_does) (pc := 9) dX11_does_9 rfl rfl ?_
    refine go_mial (y := mX11_does) (pc := 10) (r := 9) (k := i) dX11_does_10 (by decide) (by decide) rfl (by decide) rfl (by omega) (by decide) (fun r10 => ?_)
    refine go_top (b := σ 9 i) ((wr_na (by decide))) (fun t10 => ?_)
    refine go_istore_n (y := mX11_does) (pc := 11) dX11_does_11 rfl (by decide) ?_
    refine go_aload_n (y := mX11_does) (pc := 12) dX11_does_12 rfl rfl ?_
    refine go_mref (y := mX11_does) (pc := 13) dX11_does_13 fl_X11_42 rfl rfl (by decide) ?_
    refine go_iload_n (y := mX11_does) (pc := 16) dX11_does_16 rfl rfl ?_
    refine go_mial (y := mX11_does) (pc := 17) (r := 10) (k := i) dX11_does_17 (by decide) (by decide) rfl (by decide) rfl (by omega) (by decide) (fun r17 => ?_)
    refine go_top (b := τ 8 i) ((by rw [wr_na (by decide)]; exact q10 (by omega))) (fun t17 => ?_)
    refine go_istore_n (y := mX11_does) (pc := 18) dX11_does_18 rfl (by decide) ?_
    refine go_aload_n (y := mX11_does) (pc := 19) dX11_does_19 rfl rfl ?_
    refine go_mref (y := mX11_does) (pc := 20) dX11_does_20 fl_X11_36 rfl rfl (by decide) ?_
    refine go_iload_n (y := mX11_does) (pc := 23) dX11_does_23 rfl rfl ?_
    refine go_mial (y := mX11_does) (pc := 24) (r := 8) (k := i) dX11_does_24 (by decide) (by decide) rfl (by decide) rfl (by omega) (by decide) (fun r24 => ?_)
    refine go_top (b := 7) ((by rw [wr_na (by decide), q8]; exact hk9)) (fun t24 => ?_)
    refine go_tbOut (y := mX11_does) (pc := 25) (tgt := 119) dX11_does_25 (by omega) (by omega) (by decide) ?_
    refine go_aload_n (y := mX11_does) (pc := 119) dX11_does_119 rfl rfl ?_
    refine go_iload_n (y := mX11_does) (pc := 120) dX11_does_120 rfl rfl ?_
    refine go_callV1 (y := mX11_does) (pc := 121) (y' := mX11_ranks) (kc2 := 0) (ks2 := 0) dX11_does_121 ml_X11_320 ok_X11_ranks (show shp 276 = _ from rfl) ⟨_, _, rfl⟩ (by decide) rfl (by decide) (Nat.le_of_ble_eq_true rfl) rfl (m_ranks (by omega) h7 h6' hr hS hC (fun g ν121 e121 => ?_) (fun g => ?_))
    · skip
      refine go_ireturn (y := mX11_does) (pc := 124) dX11_does_124 rfl ?_
      rw [hcg]
      exact K g ν121 _ e121
    · skip
      refine go_ireturn (y := mX11_does) (pc := 124) dX11_does_124 rfl ?_
      exact K2 g _ (t2_b g hb)
set_option maxRecDepth 8000 in
set_option maxHeartbeats 4000000 in
theorem m_doesAll0 {n a b : Nat} (hw : wfb τ 0 n a b) (ha30 : a ≤ 30) (hP : okP τ b9) (hb : b ≤ b9) (hc : ∀ k : Nat, a ≤ k → k < b → crel τ σ k) (h24 : σ 0 24 ≠ 0) (h6 : 0 ≤ σ 0 6 ∧ σ 0 6 ≤ 8) (h23 : σ 0 23 = x.2.1) (hst : x.2.2 = false) (hr : rel S x.1 ν) (hS : wfS S) (hx : okR S x) {Q : Option Value → Mem → Prop} {X : String → Mem → Prop} (K : ∀ σ' ν' v, v = bI ((rnB τ S n a b x).2.2 = false) → v = 0 ∨ v = 1 → rel S (rnB τ S n a b x).1 ν' → smD σ' σ → σ' 0 23 = (rnB τ S n a b x).2.1 → Q (some (.int (iI v))) (md σ' ν' μ)) : mt 289 8 0 0 mX11_doesAll [.ref 276, .int (iI (a : Nat)), .int (iI (b : Nat))] Q X (md σ ν μ) := by
  show go 289 8 0 0 mX11_doesAll Q X 0 [.ref 276, .int (iI (a : Nat)), .int (iI (b : Nat)), .null, .null] [] _
  have hb30 : b ≤ 30 := by have := hP.1; omega
  obtain ⟨X9, eX⟩ : ∃ X9, X9 = rnB τ S n a b x := ⟨_, rfl⟩
  rw [← eX] at K
  have fin : ∀ (y : Rst) (σ1 : Mem) (ν1 : Nat → Int), y = X9 → y.2.2 = true → rel S y.1 ν1 → smD σ1 σ → σ1 0 23 = y.2.1 → Q (some (.int (iI 0))) (md σ1 ν1 μ) := by
    intro y σ1 ν1 e h1 h2 h3 h4
    rw [e] at h1 h2 h4
    exact K σ1 ν1 0 (bI_f (by rw [h1]; decide)).symm (by omega) h2 h3 h4
  have loop : ∀ (n k : Nat) (t : Value) (y : Rst) (σ1 : Mem) (ν1 : Nat → Int), wfb τ 0 n k b → a ≤ k → k ≤ 30 → okR S y → y.2.2 = false → rel S y.1 ν1 → smD σ1 σ → σ1 0 23 = y.2.1 → rnB τ S n k b y = X9 → go 289 8 0 0 mX11_doesAll Q X 2 [.ref 276, .int (iI (a : Nat)), .int (iI (b : Nat)), .int (iI (k : Nat)), t] [] (md σ1 ν1 μ) := by
    intro n
    induction n with
    | zero =>
      intro k t y σ1 ν1 hw hak h30 hy hf h1 h2 h3 hq
      have hw' : b ≤ k := hw
      rw [rnB] at hq
      refine go_iload_n (y := mX11_doesAll) (pc := 2) dX11_doesAll_2 rfl rfl ?_
      refine go_iload_n (y := mX11_doesAll) (pc := 3) dX11_doesAll_3 rfl rfl ?_
      refine go_icmp_ge (y := mX11_doesAll) (pc := 4) (tgt := 109) dX11_doesAll_4 (by decide) (by omega) (by omega) (fun h4 => ?_) (fun h4 => ?_)
      · skip
        refine go_iconst (y := mX11_doesAll) (pc := 109) dX11_doesAll_109 ?_
        refine go_zreturn (y := mX11_doesAll) (pc := 110) dX11_doesAll_110 rfl (by omega) ?_
        rw [hq] at hf h1 h3
        exact K σ1 ν1 1 (bI_t hf).symm (by omega) h1 h2 h3
      · skip
        exact absurd h4 (by omega)
    | succ n ih =>
      intro k t y σ1 ν1 hw hak h30 hy hf h1 h2 h3 hq
      have hy2 := hy.2
      by_cases hbk : b ≤ k
      · skip
        rw [rnB, if_pos (Or.inl hbk)] at hq
        refine go_iload_n (y := mX11_doesAll) (pc := 2) dX11_doesAll_2 rfl rfl ?_
        refine go_iload_n (y := mX11_doesAll) (pc := 3) dX11_doesAll_3 rfl rfl ?_
        refine go_icmp_ge (y := mX11_doesAll) (pc := 4) (tgt := 109) dX11_doesAll_4 (by decide) (by omega) (by omega) (fun h4 => ?_) (fun h4 => ?_)
        · skip
          refine go_iconst (y := mX11_doesAll) (pc := 109) dX11_doesAll_109 ?_
          refine go_zreturn (y := mX11_doesAll) (pc := 110) dX11_doesAll_110 rfl (by omega) ?_
          rw [hq] at hf h1 h3
          exact K σ1 ν1 1 (bI_t hf).symm (by omega) h1 h2 h3
        · skip
          exact absurd h4 (by omega)
      · have hck : crel τ σ1 k := crel_f (hc k hak (by omega)) (fun _ _ _ => rfl) (fun a h8 h11 => h2 a k (Or.inl (by omega)))
        have hPa := hP.2 k (by omega)
        have k24 : σ1 0 24 ≠ 0 := by rw [h2 0 24 (Or.inr (by decide))]; exact h24
        have k6 : 0 ≤ σ1 0 6 ∧ σ1 0 6 ≤ 8 := by rw [h2 0 6 (Or.inr (by decide))]; exact h6
        rw [rnB, if_neg (fun w => w.elim hbk (fun w => by rw [hf] at w; exact absurd w (by decide)))] at hq
        refine go_iload_n (y := mX11_doesAll) (pc := 2) dX11_doesAll_2 rfl rfl ?_
        refine go_iload_n (y := mX11_doesAll) (pc := 3) dX11_doesAll_3 rfl rfl ?_
        refine go_icmp_ge (y := mX11_doesAll) (pc := 4) (tgt := 109) dX11_doesAll_4 (by decide) (by omega) (by omega) (fun h4 => ?_) (fun h4 => ?_)
        · skip
          exact absurd (show b ≤ k by omega) hbk
        · skip
          refine go_aload_n (y := mX11_doesAll) (pc := 7) dX11_doesAll_7 rfl rfl ?_
          refine go_mref (y := mX11_doesAll) (pc := 8) dX11_doesAll_8 fl_X11_36 rfl rfl (by decide) ?_
          refine go_iload_n (y := mX11_doesAll) (pc := 11) dX11_doesAll_11 rfl rfl ?_
          refine go_mial (y := mX11_doesAll) (pc := 12) (r := 8) (k := k) dX11_doesAll_12 (by decide) (by decide) rfl (by decide) rfl (by omega) (by decide) (fun r12 => ?_)
          refine go_top (b := τ 5 k) (hck.1) (fun t12 => ?_)
          refine go_bipush (y := mX11_doesAll) (pc := 13) dX11_doesAll_13 (by decide) ?_
          refine go_icmp_ne (y := mX11_doesAll) (pc := 15) (tgt := 66) dX11_doesAll_15 (by decide) (by omega) (by omega) (fun h15 => ?_) (fun h15 => ?_)
          · skip
            have hne : τ 5 k ≠ 8 := h15
            rw [if_neg hne] at hq
            have hw9 : wfb τ 0 n (k + 1) b := by
              rcases hw with w | ⟨w1, w | ⟨w2, w9⟩⟩
              · exact absurd w hbk
              · exact w.2.2
              · exact absurd w2 hne
            refine go_aload_n (y := mX11_doesAll) (pc := 66) dX11_doesAll_66 rfl rfl ?_
            refine go_mget (y := mX11_doesAll) (pc := 67) dX11_doesAll_67 fl_X11_326 rfl rfl (by decide) (fun r67 => ?_)
            refine go_top (b := y.2.1) (h3) (fun t67 => ?_)
            refine go_bipush (y := mX11_doesAll) (pc := 70) dX11_doesAll_70 (by decide) ?_
            refine go_icmp_ne (y := mX11_doesAll) (pc := 72) (tgt := 77) dX11_doesAll_72 (by decide) (by omega) (by omega) (fun h72 => ?_) (fun h72 => ?_)
            · skip
              refine go_aload_n (y := mX11_doesAll) (pc := 77) dX11_doesAll_77 rfl rfl ?_
              refine go_iload_n (y := mX11_doesAll) (pc := 78) dX11_doesAll_78 rfl rfl ?_
              refine go_callV1 (y := mX11_doesAll) (pc := 79) (y' := mX11_does) (kc2 := 0) (ks2 := 0) dX11_doesAll_79 ml_X11_329 ok_X11_does (show shp 276 = _ from rfl) ⟨_, _, rfl⟩ (by decide) rfl (by decide) (Nat.le_of_ble_eq_true rfl) rfl (m_does (i := k) (by omega) (by omega) hck k24 k6 h1 hS hy.1 (fun g ν79 a79 e79 => ?_) (fun g t79 b79 => ?_))
              · skip
                have e1 : one τ S k y = (pfC S y.1 (τ 5 k) (τ 6 k) (τ 7 k) (τ 8 k), y.2.1 + 1, false) := if_neg (fun w => w.elim (fun w => by omega) (fun w => w g))
                have hk1 := ok_one (i := k) hS hP (by omega) hy
                rw [e1] at hq hk1
                refine go_istore (y := mX11_doesAll) (pc := 82) dX11_doesAll_82 (by decide) ?_
                refine go_aload_n (y := mX11_doesAll) (pc := 84) dX11_doesAll_84 rfl rfl ?_
                refine go_mget (y := mX11_doesAll) (pc := 85) dX11_doesAll_85 fl_X11_83 rfl rfl (by decide) (fun r85 => ?_)
                refine go_top (b := 0) ((wr_s _ _ _ _)) (fun t85 => ?_)
                refine go_if_eq (y := mX11_doesAll) (pc := 88) (tgt := 93) dX11_doesAll_88 (by decide) (by omega) (fun h88 => ?_) (fun h88 => ?_)
                · skip
                  refine go_aload_n (y := mX11_doesAll) (pc := 93) dX11_doesAll_93 rfl rfl ?_
                  refine go_dup (y := mX11_doesAll) (pc := 94) dX11_doesAll_94 rfl ?_
                  refine go_mget (y := mX11_doesAll) (pc := 95) dX11_doesAll_95 fl_X11_326 rfl rfl (by decide) (fun r95 => ?_)
                  refine go_top (b := y.2.1) ((by rw [wr_ni (by decide)]; exact h3)) (fun t95 => ?_)
                  refine go_iconst (y := mX11_doesAll) (pc := 98) dX11_doesAll_98 ?_
                  refine go_iadd (y := mX11_doesAll) (pc := 99) dX11_doesAll_99 ?_
                  refine go_mput (y := mX11_doesAll) (pc := 100) dX11_doesAll_100 fp_X11_326 rfl rfl (by decide) (by omega) ?_
                  refine go_iinc (y := mX11_doesAll) (pc := 103) dX11_doesAll_103 rfl (by decide) ?_
                  refine go_goto (y := mX11_doesAll) (pc := 106) (tgt := 2) dX11_doesAll_106 (by decide) ?_
                  exact ih (k + 1) _ _ _ ν79 hw9 (by omega) (by omega) hk1 rfl e79 (smD_t (smD_w (by decide)) (smD_t (smD_w (by decide)) h2)) (wr_s _ _ _ _) hq
                · skip
                  exact absurd rfl h88
              · skip
                have e1 : one τ S k y = (y.1, y.2.1, true) := if_pos (Or.inr g)
                rw [e1, rnB_st _ _ _ _ rfl] at hq
                refine go_istore (y := mX11_doesAll) (pc := 82) dX11_doesAll_82 (by decide) ?_
                refine go_aload_n (y := mX11_doesAll) (pc := 84) dX11_doesAll_84 rfl rfl ?_
                refine go_mget (y := mX11_doesAll) (pc := 85) dX11_doesAll_85 fl_X11_83 rfl rfl (by decide) (fun r85 => ?_)
                refine go_top (b := t79) ((wr_s _ _ _ _)) (fun t85 => ?_)
                refine go_if_eq (y := mX11_doesAll) (pc := 88) (tgt := 93) dX11_doesAll_88 (by decide) (by omega) (fun h88 => ?_) (fun h88 => ?_)
                · skip
                  exact absurd h88 (by omega)
                · skip
                  refine go_iconst (y := mX11_doesAll) (pc := 91) dX11_doesAll_91 ?_
                  refine go_zreturn (y := mX11_doesAll) (pc := 92) dX11_doesAll_92 rfl (by omega) ?_
                  exact fin _ _ ν1 hq rfl h1 (smD_t (smD_w (by decide)) (smD_t (smD_w (by decide)) h2)) (by rw [wr_ni (by decide), wr_ni (by decide)]; exact h3)
            · skip
              refine go_iconst (y := mX11_doesAll) (pc := 75) dX11_doesAll_75 ?_
              refine go_zreturn (y := mX11_doesAll) (pc := 76) dX11_doesAll_76 rfl (by omega) ?_
              have e1 : one τ S k y = (y.1, y.2.1, true) := if_pos (Or.inl (by omega))
              rw [e1, rnB_st _ _ _ _ rfl] at hq
              exact fin _ σ1 ν1 hq rfl h1 h2 h3
          · skip
            skip
            rcases hw with w | ⟨w1, w | ⟨w2, w3, w9⟩⟩
            · exact absurd w hbk
            · exact absurd (show τ 5 k = 8 by omega) w.1
            · exact absurd w3 (by decide)
  refine go_iload_n (y := mX11_doesAll) (pc := 0) dX11_doesAll_0 rfl rfl ?_
  refine go_istore_n (y := mX11_doesAll) (pc := 1) dX11_doesAll_1 rfl (by decide) ?_
  exact loop n a .null x σ ν hw (Nat.le_refl _) ha30 hx hst hr (smD_r σ) h23 eX.symm
set_option maxRecDepth 8000 in
set_option maxHeartbeats 4000000 in
theorem m_doesAll1 {n a b : Nat} (hw : wfb τ 1 n a b) (ha30 : a ≤ 30) (hP : okP τ b9) (hb : b ≤ b9) (hc : ∀ k : Nat, a ≤ k → k < b → crel τ σ k) (h24 : σ 0 24 ≠ 0) (h6 : 0 ≤ σ 0 6 ∧ σ 0 6 ≤ 8) (h23 : σ 0 23 = x.2.1) (hst : x.2.2 = false) (hr : rel S x.1 ν) (hS : wfS S) (hx : okR S x) {Q : Option Value → Mem → Prop} {X : String → Mem → Prop} (K : ∀ σ' ν' v, v = bI ((rnB τ S n a b x).2.2 = false) → v = 0 ∨ v = 1 → rel S (rnB τ S n a b x).1 ν' → smD σ' σ → σ' 0 23 = (rnB τ S n a b x).2.1 → Q (some (.int (iI v))) (md σ' ν' μ)) : mt 289 9 0 0 mX11_doesAll [.ref 276, .int (iI (a : Nat)), .int (iI (b : Nat))] Q X (md σ ν μ) := by
  show go 289 9 0 0 mX11_doesAll Q X 0 [.ref 276, .int (iI (a : Nat)), .int (iI (b : Nat)), .null, .null] [] _
  have hb30 : b ≤ 30 := by have := hP.1; omega
  obtain ⟨X9, eX⟩ : ∃ X9, X9 = rnB τ S n a b x := ⟨_, rfl⟩
  rw [← eX] at K
  have fin : ∀ (y : Rst) (σ1 : Mem) (ν1 : Nat → Int), y = X9 → y.2.2 = true → rel S y.1 ν1 → smD σ1 σ → σ1 0 23 = y.2.1 → Q (some (.int (iI 0))) (md σ1 ν1 μ) := by
    intro y σ1 ν1 e h1 h2 h3 h4
    rw [e] at h1 h2 h4
    exact K σ1 ν1 0 (bI_f (by rw [h1]; decide)).symm (by omega) h2 h3 h4
  have loop : ∀ (n k : Nat) (t : Value) (y : Rst) (σ1 : Mem) (ν1 : Nat → Int), wfb τ 1 n k b → a ≤ k → k ≤ 30 → okR S y → y.2.2 = false → rel S y.1 ν1 → smD σ1 σ → σ1 0 23 = y.2.1 → rnB τ S n k b y = X9 → go 289 9 0 0 mX11_doesAll Q X 2 [.ref 276, .int (iI (a : Nat)), .int (iI (b : Nat)), .int (iI (k : Nat)), t] [] (md σ1 ν1 μ) := by
    intro n
    induction n with
    | zero =>
      intro k t y σ1 ν1 hw hak h30 hy hf h1 h2 h3 hq
      have hw' : b ≤ k := hw
      rw [rnB] at hq
      refine go_iload_n (y := mX11_doesAll) (pc := 2) dX11_doesAll_2 rfl rfl ?_
      refine go_iload_n (y := mX11_doesAll) (pc := 3) dX11_doesAll_3 rfl rfl ?_
      refine go_icmp_ge (y := mX11_doesAll) (pc := 4) (tgt := 109) dX11_doesAll_4 (by decide) (by omega) (by omega) (fun h4 => ?_) (fun h4 => ?_)
      · skip
        refine go_iconst (y := mX11_doesAll) (pc := 109) dX11_doesAll_109 ?_
        refine go_zreturn (y := mX11_doesAll) (pc := 110) dX11_doesAll_110 rfl (by omega) ?_
        rw [hq] at hf h1 h3
        exact K σ1 ν1 1 (bI_t hf).symm (by omega) h1 h2 h3
      · skip
        exact absurd h4 (by omega)
    | succ n ih =>
      intro k t y σ1 ν1 hw hak h30 hy hf h1 h2 h3 hq
      have hy2 := hy.2
      by_cases hbk : b ≤ k
      · skip
        rw [rnB, if_pos (Or.inl hbk)] at hq
        refine go_iload_n (y := mX11_doesAll) (pc := 2) dX11_doesAll_2 rfl rfl ?_
        refine go_iload_n (y := mX11_doesAll) (pc := 3) dX11_doesAll_3 rfl rfl ?_
        refine go_icmp_ge (y := mX11_doesAll) (pc := 4) (tgt := 109) dX11_doesAll_4 (by decide) (by omega) (by omega) (fun h4 => ?_) (fun h4 => ?_)
        · skip
          refine go_iconst (y := mX11_doesAll) (pc := 109) dX11_doesAll_109 ?_
          refine go_zreturn (y := mX11_doesAll) (pc := 110) dX11_doesAll_110 rfl (by omega) ?_
          rw [hq] at hf h1 h3
          exact K σ1 ν1 1 (bI_t hf).symm (by omega) h1 h2 h3
        · skip
          exact absurd h4 (by omega)
      · have hck : crel τ σ1 k := crel_f (hc k hak (by omega)) (fun _ _ _ => rfl) (fun a h8 h11 => h2 a k (Or.inl (by omega)))
        have hPa := hP.2 k (by omega)
        have k24 : σ1 0 24 ≠ 0 := by rw [h2 0 24 (Or.inr (by decide))]; exact h24
        have k6 : 0 ≤ σ1 0 6 ∧ σ1 0 6 ≤ 8 := by rw [h2 0 6 (Or.inr (by decide))]; exact h6
        rw [rnB, if_neg (fun w => w.elim hbk (fun w => by rw [hf] at w; exact absurd w (by decide)))] at hq
        refine go_iload_n (y := mX11_doesAll) (pc := 2) dX11_doesAll_2 rfl rfl ?_
        refine go_iload_n (y := mX11_doesAll) (pc := 3) dX11_doesAll_3 rfl rfl ?_
        refine go_icmp_ge (y := mX11_doesAll) (pc := 4) (tgt := 109) dX11_doesAll_4 (by decide) (by omega) (by omega) (fun h4 => ?_) (fun h4 => ?_)
        · skip
          exact absurd (show b ≤ k by omega) hbk
        · skip
          refine go_aload_n (y := mX11_doesAll) (pc := 7) dX11_doesAll_7 rfl rfl ?_
          refine go_mref (y := mX11_doesAll) (pc := 8) dX11_doesAll_8 fl_X11_36 rfl rfl (by decide) ?_
          refine go_iload_n (y := mX11_doesAll) (pc := 11) dX11_doesAll_11 rfl rfl ?_
          refine go_mial (y := mX11_doesAll) (pc := 12) (r := 8) (k := k) dX11_doesAll_12 (by decide) (by decide) rfl (by decide) rfl (by omega) (by decide) (fun r12 => ?_)
          refine go_top (b := τ 5 k) (hck.1) (fun t12 => ?_)
          refine go_bipush (y := mX11_doesAll) (pc := 13) dX11_doesAll_13 (by decide) ?_
          refine go_icmp_ne (y := mX11_doesAll) (pc := 15) (tgt := 66) dX11_doesAll_15 (by decide) (by omega) (by omega) (fun h15 => ?_) (fun h15 => ?_)
          · skip
            have hne : τ 5 k ≠ 8 := h15
            rw [if_neg hne] at hq
            have hw9 : wfb τ 1 n (k + 1) b := by
              rcases hw with w | ⟨w1, w | ⟨w2, w9⟩⟩
              · exact absurd w hbk
              · exact w.2.2
              · exact absurd w2 hne
            refine go_aload_n (y := mX11_doesAll) (pc := 66) dX11_doesAll_66 rfl rfl ?_
            refine go_mget (y := mX11_doesAll) (pc := 67) dX11_doesAll_67 fl_X11_326 rfl rfl (by decide) (fun r67 => ?_)
            refine go_top (b := y.2.1) (h3) (fun t67 => ?_)
            refine go_bipush (y := mX11_doesAll) (pc := 70) dX11_doesAll_70 (by decide) ?_
            refine go_icmp_ne (y := mX11_doesAll) (pc := 72) (tgt := 77) dX11_doesAll_72 (by decide) (by omega) (by omega) (fun h72 => ?_) (fun h72 => ?_)
            · skip
              refine go_aload_n (y := mX11_doesAll) (pc := 77) dX11_doesAll_77 rfl rfl ?_
              refine go_iload_n (y := mX11_doesAll) (pc := 78) dX11_doesAll_78 rfl rfl ?_
              refine go_callV1 (y := mX11_doesAll) (pc := 79) (y' := mX11_does) (kc2 := 0) (ks2 := 0) dX11_doesAll_79 ml_X11_329 ok_X11_does (show shp 276 = _ from rfl) ⟨_, _, rfl⟩ (by decide) rfl (by decide) (Nat.le_of_ble_eq_true rfl) rfl (m_does (i := k) (by omega) (by omega) hck k24 k6 h1 hS hy.1 (fun g ν79 a79 e79 => ?_) (fun g t79 b79 => ?_))
              · skip
                have e1 : one τ S k y = (pfC S y.1 (τ 5 k) (τ 6 k) (τ 7 k) (τ 8 k), y.2.1 + 1, false) := if_neg (fun w => w.elim (fun w => by omega) (fun w => w g))
                have hk1 := ok_one (i := k) hS hP (by omega) hy
                rw [e1] at hq hk1
                refine go_istore (y := mX11_doesAll) (pc := 82) dX11_doesAll_82 (by decide) ?_
                refine go_aload_n (y := mX11_doesAll) (pc := 84) dX11_doesAll_84 rfl rfl ?_
                refine go_mget (y := mX11_doesAll) (pc := 85) dX11_doesAll_85 fl_X11_83 rfl rfl (by decide) (fun r85 => ?_)
                refine go_top (b := 0) ((wr_s _ _ _ _)) (fun t85 => ?_)
                refine go_if_eq (y := mX11_doesAll) (pc := 88) (tgt := 93) dX11_doesAll_88 (by decide) (by omega) (fun h88 => ?_) (fun h88 => ?_)
                · skip
                  refine go_aload_n (y := mX11_doesAll) (pc := 93) dX11_doesAll_93 rfl rfl ?_
                  refine go_dup (y := mX11_doesAll) (pc := 94) dX11_doesAll_94 rfl ?_
                  refine go_mget (y := mX11_doesAll) (pc := 95) dX11_doesAll_95 fl_X11_326 rfl rfl (by decide) (fun r95 => ?_)
                  refine go_top (b := y.2.1) ((by rw [wr_ni (by decide)]; exact h3)) (fun t95 => ?_)
                  refine go_iconst (y := mX11_doesAll) (pc := 98) dX11_doesAll_98 ?_
                  refine go_iadd (y := mX11_doesAll) (pc := 99) dX11_doesAll_99 ?_
                  refine go_mput (y := mX11_doesAll) (pc := 100) dX11_doesAll_100 fp_X11_326 rfl rfl (by decide) (by omega) ?_
                  refine go_iinc (y := mX11_doesAll) (pc := 103) dX11_doesAll_103 rfl (by decide) ?_
                  refine go_goto (y := mX11_doesAll) (pc := 106) (tgt := 2) dX11_doesAll_106 (by decide) ?_
                  exact ih (k + 1) _ _ _ ν79 hw9 (by omega) (by omega) hk1 rfl e79 (smD_t (smD_w (by decide)) (smD_t (smD_w (by decide)) h2)) (wr_s _ _ _ _) hq
                · skip
                  exact absurd rfl h88
              · skip
                have e1 : one τ S k y = (y.1, y.2.1, true) := if_pos (Or.inr g)
                rw [e1, rnB_st _ _ _ _ rfl] at hq
                refine go_istore (y := mX11_doesAll) (pc := 82) dX11_doesAll_82 (by decide) ?_
                refine go_aload_n (y := mX11_doesAll) (pc := 84) dX11_doesAll_84 rfl rfl ?_
                refine go_mget (y := mX11_doesAll) (pc := 85) dX11_doesAll_85 fl_X11_83 rfl rfl (by decide) (fun r85 => ?_)
                refine go_top (b := t79) ((wr_s _ _ _ _)) (fun t85 => ?_)
                refine go_if_eq (y := mX11_doesAll) (pc := 88) (tgt := 93) dX11_doesAll_88 (by decide) (by omega) (fun h88 => ?_) (fun h88 => ?_)
                · skip
                  exact absurd h88 (by omega)
                · skip
                  refine go_iconst (y := mX11_doesAll) (pc := 91) dX11_doesAll_91 ?_
                  refine go_zreturn (y := mX11_doesAll) (pc := 92) dX11_doesAll_92 rfl (by omega) ?_
                  exact fin _ _ ν1 hq rfl h1 (smD_t (smD_w (by decide)) (smD_t (smD_w (by decide)) h2)) (by rw [wr_ni (by decide), wr_ni (by decide)]; exact h3)
            · skip
              refine go_iconst (y := mX11_doesAll) (pc := 75) dX11_doesAll_75 ?_
              refine go_zreturn (y := mX11_doesAll) (pc := 76) dX11_doesAll_76 rfl (by omega) ?_
              have e1 : one τ S k y = (y.1, y.2.1, true) := if_pos (Or.inl (by omega))
              rw [e1, rnB_st _ _ _ _ rfl] at hq
              exact fin _ σ1 ν1 hq rfl h1 h2 h3
          · skip
            skip
            have h8 : τ 5 k = 8 := by omega
            rcases hw with w | ⟨w1, w | ⟨w2, w3, e, w4, w5, w6, w7, w8⟩⟩
            · exact absurd w hbk
            · exact absurd h8 w.1
            · skip
              rw [if_pos h8, w6] at hq
              rw [show ((e : Int)).toNat = e from rfl] at hq
              obtain ⟨G, eG⟩ : ∃ G, G = rnB τ S n (k + 1) e := ⟨_, rfl⟩
              rw [← eG] at hq
              have hG : ∀ y, okR S y → okR S (G y) := fun y hy => by rw [eG]; exact ok_rnB hS hP n 0 (k + 1) e y w7 (by omega) hy
              have hGs : ∀ y : Rst, y.2.2 = true → G y = y := fun y hy => by rw [eG]; exact rnB_st _ _ _ _ hy
              have t8 := hPa.2.2 h8
              have inner : ∀ (t k2 : Nat) (y : Rst) (σ1 : Mem) (ν1 : Nat → Int), k2 + t = (τ 8 k).toNat → okR S y → y.2.2 = false → rel S y.1 ν1 → smD σ1 σ → σ1 0 23 = y.2.1 → rnB τ S n e b (itr G t y) = X9 → go 289 9 0 0 mX11_doesAll Q X 21 [.ref 276, .int (iI (a : Nat)), .int (iI (b : Nat)), .int (iI (k : Nat)), .int (iI (k2 : Nat))] [] (md σ1 ν1 μ) := by
                intro t
                induction t with
                | zero =>
                  intro k2 y σ1 ν1 hk2 hy hf h1 h2 h3 hq
                  have hck : crel τ σ1 k := crel_f (hc k hak (by omega)) (fun _ _ _ => rfl) (fun a h8 h11 => h2 a k (Or.inl (by omega)))
                  rw [itr] at hq
                  refine go_iload (y := mX11_doesAll) (pc := 21) dX11_doesAll_21 rfl ?_
                  refine go_aload_n (y := mX11_doesAll) (pc := 23) dX11_doesAll_23 rfl rfl ?_
                  refine go_mref (y := mX11_doesAll) (pc := 24) dX11_doesAll_24 fl_X11_42 rfl rfl (by decide) ?_
                  refine go_iload_n (y := mX11_doesAll) (pc := 27) dX11_doesAll_27 rfl rfl ?_
                  refine go_mial (y := mX11_doesAll) (pc := 28) (r := 10) (k := k) dX11_doesAll_28 (by decide) (by decide) rfl (by decide) rfl (by omega) (by decide) (fun r28 => ?_)
                  refine go_top (b := τ 8 k) ((hck.2.2.2.1 (by omega))) (fun t28 => ?_)
                  refine go_icmp_ge (y := mX11_doesAll) (pc := 29) (tgt := 56) dX11_doesAll_29 (by decide) (by omega) (by omega) (fun h29 => ?_) (fun h29 => ?_)
                  · skip
                    refine go_aload_n (y := mX11_doesAll) (pc := 56) dX11_doesAll_56 rfl rfl ?_
                    refine go_mref (y := mX11_doesAll) (pc := 57) dX11_doesAll_57 fl_X11_45 rfl rfl (by decide) ?_
                    refine go_iload_n (y := mX11_doesAll) (pc := 60) dX11_doesAll_60 rfl rfl ?_
                    refine go_mial (y := mX11_doesAll) (pc := 61) (r := 11) (k := k) dX11_doesAll_61 (by decide) (by decide) rfl (by decide) rfl (by omega) (by decide) (fun r61 => ?_)
                    refine go_top (b := ((e : Nat) : Int)) (((hck.2.2.2.2.2 h8).1.trans w6)) (fun t61 => ?_)
                    refine go_istore_n (y := mX11_doesAll) (pc := 62) dX11_doesAll_62 rfl (by decide) ?_
                    refine go_goto (y := mX11_doesAll) (pc := 63) (tgt := 2) dX11_doesAll_63 (by decide) ?_
                    exact ih e _ y σ1 ν1 w8 (by omega) (by omega) hy hf h1 h2 h3 hq
                  · skip
                    exact absurd h29 (by omega)
                | succ t iht =>
                  intro k2 y σ1 ν1 hk2 hy hf h1 h2 h3 hq
                  have hck : crel τ σ1 k := crel_f (hc k hak (by omega)) (fun _ _ _ => rfl) (fun a h8 h11 => h2 a k (Or.inl (by omega)))
                  have k24 : σ1 0 24 ≠ 0 := by rw [h2 0 24 (Or.inr (by decide))]; exact h24
                  have k6 : 0 ≤ σ1 0 6 ∧ σ1 0 6 ≤ 8 := by rw [h2 0 6 (Or.inr (by decide))]; exact h6
                  rw [itr] at hq
                  refine go_iload (y := mX11_doesAll) (pc := 21) dX11_doesAll_21 rfl ?_
                  refine go_aload_n (y := mX11_doesAll) (pc := 23) dX11_doesAll_23 rfl rfl ?_
                  refine go_mref (y := mX11_doesAll) (pc := 24) dX11_doesAll_24 fl_X11_42 rfl rfl (by decide) ?_
                  refine go_iload_n (y := mX11_doesAll) (pc := 27) dX11_doesAll_27 rfl rfl ?_
                  refine go_mial (y := mX11_doesAll) (pc := 28) (r := 10) (k := k) dX11_doesAll_28 (by decide) (by decide) rfl (by decide) rfl (by omega) (by decide) (fun r28 => ?_)
                  refine go_top (b := τ 8 k) ((hck.2.2.2.1 (by omega))) (fun t28 => ?_)
                  refine go_icmp_ge (y := mX11_doesAll) (pc := 29) (tgt := 56) dX11_doesAll_29 (by decide) (by omega) (by omega) (fun h29 => ?_) (fun h29 => ?_)
                  · skip
                    exact absurd h29 (by omega)
                  · skip
                    refine go_aload_n (y := mX11_doesAll) (pc := 32) dX11_doesAll_32 rfl rfl ?_
                    refine go_iload_n (y := mX11_doesAll) (pc := 33) dX11_doesAll_33 rfl rfl ?_
                    refine go_iconst (y := mX11_doesAll) (pc := 34) dX11_doesAll_34 ?_
                    refine go_iadd (y := mX11_doesAll) (pc := 35) dX11_doesAll_35 ?_
                    refine go_aload_n (y := mX11_doesAll) (pc := 36) dX11_doesAll_36 rfl rfl ?_
                    refine go_mref (y := mX11_doesAll) (pc := 37) dX11_doesAll_37 fl_X11_45 rfl rfl (by decide) ?_
                    refine go_iload_n (y := mX11_doesAll) (pc := 40) dX11_doesAll_40 rfl rfl ?_
                    refine go_mial (y := mX11_doesAll) (pc := 41) (r := 11) (k := k) dX11_doesAll_41 (by decide) (by decide) rfl (by decide) rfl (by omega) (by decide) (fun r41 => ?_)
                    refine go_top (b := ((e : Nat) : Int)) (((hck.2.2.2.2.2 h8).1.trans w6)) (fun t41 => ?_)
                    refine go_callV2 (y := mX11_doesAll) (pc := 42) (y' := mX11_doesAll) (kc2 := 0) (ks2 := 0) dX11_doesAll_42 ml_X11_323 ok_X11_doesAll (show shp 276 = _ from rfl) ⟨_, _, rfl⟩ (by decide) ⟨rfl, rfl⟩ (by decide) (Nat.le_of_ble_eq_true rfl) rfl (m_doesAll0 (τ := τ) (x := y) (n := n) (a := k + 1) (b := e) w7 (by omega) hP (by omega) (fun j hj1 hj2 => crel_f (hc j (by omega) (by omega)) (fun _ _ _ => rfl) (fun a h8 h11 => h2 a j (Or.inl (by omega)))) k24 k6 h3 hf h1 hS hy (fun σ42 ν42 v42 e42 b42 x42 w42 y42 => ?_))
                    rw [← eG] at e42 x42 y42
                    refine go_if_ne (y := mX11_doesAll) (pc := 45) (tgt := 50) dX11_doesAll_45 (by decide) (by omega) (fun h45 => ?_) (fun h45 => ?_)
                    · skip
                      have g := bI_1 e42 h45
                      refine go_iinc (y := mX11_doesAll) (pc := 50) dX11_doesAll_50 rfl (by decide) ?_
                      refine go_goto (y := mX11_doesAll) (pc := 53) (tgt := 21) dX11_doesAll_53 (by decide) ?_
                      exact iht (k2 + 1) (G y) σ42 ν42 (by omega) (hG y hy) g x42 (smD_t w42 h2) y42 hq
                    · skip
                      have g : (G y).2.2 = true := by
                        have h9 := bI_0 e42 h45
                        revert h9
                        cases (G y).2.2 <;> decide
                      rw [itr_st hGs t _ g, rnB_st _ _ _ _ g] at hq
                      refine go_iconst (y := mX11_doesAll) (pc := 48) dX11_doesAll_48 ?_
                      refine go_zreturn (y := mX11_doesAll) (pc := 49) dX11_doesAll_49 rfl (by omega) ?_
                      exact fin _ σ42 ν42 hq g x42 (smD_t w42 h2) y42
              refine go_iconst (y := mX11_doesAll) (pc := 18) dX11_doesAll_18 ?_
              refine go_istore (y := mX11_doesAll) (pc := 19) dX11_doesAll_19 (by decide) ?_
              exact inner (τ 8 k).toNat 0 y σ1 ν1 (by omega) hy hf h1 h2 h3 hq
  refine go_iload_n (y := mX11_doesAll) (pc := 0) dX11_doesAll_0 rfl rfl ?_
  refine go_istore_n (y := mX11_doesAll) (pc := 1) dX11_doesAll_1 rfl (by decide) ?_
  exact loop n a .null x σ ν hw (Nat.le_refl _) ha30 hx hst hr (smD_r σ) h23 eX.symm
set_option maxRecDepth 8000 in
set_option maxHeartbeats 4000000 in
theorem m_doesAll2 {n a b : Nat} (hw : wfb τ 2 n a b) (ha30 : a ≤ 30) (hP : okP τ b9) (hb : b ≤ b9) (hc : ∀ k : Nat, a ≤ k → k < b → crel τ σ k) (h24 : σ 0 24 ≠ 0) (h6 : 0 ≤ σ 0 6 ∧ σ 0 6 ≤ 8) (h23 : σ 0 23 = x.2.1) (hst : x.2.2 = false) (hr : rel S x.1 ν) (hS : wfS S) (hx : okR S x) {Q : Option Value → Mem → Prop} {X : String → Mem → Prop} (K : ∀ σ' ν' v, v = bI ((rnB τ S n a b x).2.2 = false) → v = 0 ∨ v = 1 → rel S (rnB τ S n a b x).1 ν' → smD σ' σ → σ' 0 23 = (rnB τ S n a b x).2.1 → Q (some (.int (iI v))) (md σ' ν' μ)) : mt 289 10 0 0 mX11_doesAll [.ref 276, .int (iI (a : Nat)), .int (iI (b : Nat))] Q X (md σ ν μ) := by
  show go 289 10 0 0 mX11_doesAll Q X 0 [.ref 276, .int (iI (a : Nat)), .int (iI (b : Nat)), .null, .null] [] _
  have hb30 : b ≤ 30 := by have := hP.1; omega
  obtain ⟨X9, eX⟩ : ∃ X9, X9 = rnB τ S n a b x := ⟨_, rfl⟩
  rw [← eX] at K
  have fin : ∀ (y : Rst) (σ1 : Mem) (ν1 : Nat → Int), y = X9 → y.2.2 = true → rel S y.1 ν1 → smD σ1 σ → σ1 0 23 = y.2.1 → Q (some (.int (iI 0))) (md σ1 ν1 μ) := by
    intro y σ1 ν1 e h1 h2 h3 h4
    rw [e] at h1 h2 h4
    exact K σ1 ν1 0 (bI_f (by rw [h1]; decide)).symm (by omega) h2 h3 h4
  have loop : ∀ (n k : Nat) (t : Value) (y : Rst) (σ1 : Mem) (ν1 : Nat → Int), wfb τ 2 n k b → a ≤ k → k ≤ 30 → okR S y → y.2.2 = false → rel S y.1 ν1 → smD σ1 σ → σ1 0 23 = y.2.1 → rnB τ S n k b y = X9 → go 289 10 0 0 mX11_doesAll Q X 2 [.ref 276, .int (iI (a : Nat)), .int (iI (b : Nat)), .int (iI (k : Nat)), t] [] (md σ1 ν1 μ) := by
    intro n
    induction n with
    | zero =>
      intro k t y σ1 ν1 hw hak h30 hy hf h1 h2 h3 hq
      have hw' : b ≤ k := hw
      rw [rnB] at hq
      refine go_iload_n (y := mX11_doesAll) (pc := 2) dX11_doesAll_2 rfl rfl ?_
      refine go_iload_n (y := mX11_doesAll) (pc := 3) dX11_doesAll_3 rfl rfl ?_
      refine go_icmp_ge (y := mX11_doesAll) (pc := 4) (tgt := 109) dX11_doesAll_4 (by decide) (by omega) (by omega) (fun h4 => ?_) (fun h4 => ?_)
      · skip
        refine go_iconst (y := mX11_doesAll) (pc := 109) dX11_doesAll_109 ?_
        refine go_zreturn (y := mX11_doesAll) (pc := 110) dX11_doesAll_110 rfl (by omega) ?_
        rw [hq] at hf h1 h3
        exact K σ1 ν1 1 (bI_t hf).symm (by omega) h1 h2 h3
      · skip
        exact absurd h4 (by omega)
    | succ n ih =>
      intro k t y σ1 ν1 hw hak h30 hy hf h1 h2 h3 hq
      have hy2 := hy.2
      by_cases hbk : b ≤ k
      · skip
        rw [rnB, if_pos (Or.inl hbk)] at hq
        refine go_iload_n (y := mX11_doesAll) (pc := 2) dX11_doesAll_2 rfl rfl ?_
        refine go_iload_n (y := mX11_doesAll) (pc := 3) dX11_doesAll_3 rfl rfl ?_
        refine go_icmp_ge (y := mX11_doesAll) (pc := 4) (tgt := 109) dX11_doesAll_4 (by decide) (by omega) (by omega) (fun h4 => ?_) (fun h4 => ?_)
        · skip
          refine go_iconst (y := mX11_doesAll) (pc := 109) dX11_doesAll_109 ?_
          refine go_zreturn (y := mX11_doesAll) (pc := 110) dX11_doesAll_110 rfl (by omega) ?_
          rw [hq] at hf h1 h3
          exact K σ1 ν1 1 (bI_t hf).symm (by omega) h1 h2 h3
        · skip
          exact absurd h4 (by omega)
      · have hck : crel τ σ1 k := crel_f (hc k hak (by omega)) (fun _ _ _ => rfl) (fun a h8 h11 => h2 a k (Or.inl (by omega)))
        have hPa := hP.2 k (by omega)
        have k24 : σ1 0 24 ≠ 0 := by rw [h2 0 24 (Or.inr (by decide))]; exact h24
        have k6 : 0 ≤ σ1 0 6 ∧ σ1 0 6 ≤ 8 := by rw [h2 0 6 (Or.inr (by decide))]; exact h6
        rw [rnB, if_neg (fun w => w.elim hbk (fun w => by rw [hf] at w; exact absurd w (by decide)))] at hq
        refine go_iload_n (y := mX11_doesAll) (pc := 2) dX11_doesAll_2 rfl rfl ?_
        refine go_iload_n (y := mX11_doesAll) (pc := 3) dX11_doesAll_3 rfl rfl ?_
        refine go_icmp_ge (y := mX11_doesAll) (pc := 4) (tgt := 109) dX11_doesAll_4 (by decide) (by omega) (by omega) (fun h4 => ?_) (fun h4 => ?_)
        · skip
          exact absurd (show b ≤ k by omega) hbk
        · skip
          refine go_aload_n (y := mX11_doesAll) (pc := 7) dX11_doesAll_7 rfl rfl ?_
          refine go_mref (y := mX11_doesAll) (pc := 8) dX11_doesAll_8 fl_X11_36 rfl rfl (by decide) ?_
          refine go_iload_n (y := mX11_doesAll) (pc := 11) dX11_doesAll_11 rfl rfl ?_
          refine go_mial (y := mX11_doesAll) (pc := 12) (r := 8) (k := k) dX11_doesAll_12 (by decide) (by decide) rfl (by decide) rfl (by omega) (by decide) (fun r12 => ?_)
          refine go_top (b := τ 5 k) (hck.1) (fun t12 => ?_)
          refine go_bipush (y := mX11_doesAll) (pc := 13) dX11_doesAll_13 (by decide) ?_
          refine go_icmp_ne (y := mX11_doesAll) (pc := 15) (tgt := 66) dX11_doesAll_15 (by decide) (by omega) (by omega) (fun h15 => ?_) (fun h15 => ?_)
          · skip
            have hne : τ 5 k ≠ 8 := h15
            rw [if_neg hne] at hq
            have hw9 : wfb τ 2 n (k + 1) b := by
              rcases hw with w | ⟨w1, w | ⟨w2, w9⟩⟩
              · exact absurd w hbk
              · exact w.2.2
              · exact absurd w2 hne
            refine go_aload_n (y := mX11_doesAll) (pc := 66) dX11_doesAll_66 rfl rfl ?_
            refine go_mget (y := mX11_doesAll) (pc := 67) dX11_doesAll_67 fl_X11_326 rfl rfl (by decide) (fun r67 => ?_)
            refine go_top (b := y.2.1) (h3) (fun t67 => ?_)
            refine go_bipush (y := mX11_doesAll) (pc := 70) dX11_doesAll_70 (by decide) ?_
            refine go_icmp_ne (y := mX11_doesAll) (pc := 72) (tgt := 77) dX11_doesAll_72 (by decide) (by omega) (by omega) (fun h72 => ?_) (fun h72 => ?_)
            · skip
              refine go_aload_n (y := mX11_doesAll) (pc := 77) dX11_doesAll_77 rfl rfl ?_
              refine go_iload_n (y := mX11_doesAll) (pc := 78) dX11_doesAll_78 rfl rfl ?_
              refine go_callV1 (y := mX11_doesAll) (pc := 79) (y' := mX11_does) (kc2 := 0) (ks2 := 0) dX11_doesAll_79 ml_X11_329 ok_X11_does (show shp 276 = _ from rfl) ⟨_, _, rfl⟩ (by decide) rfl (by decide) (Nat.le_of_ble_eq_true rfl) rfl (m_does (i := k) (by omega) (by omega) hck k24 k6 h1 hS hy.1 (fun g ν79 a79 e79 => ?_) (fun g t79 b79 => ?_))
              · skip
                have e1 : one τ S k y = (pfC S y.1 (τ 5 k) (τ 6 k) (τ 7 k) (τ 8 k), y.2.1 + 1, false) := if_neg (fun w => w.elim (fun w => by omega) (fun w => w g))
                have hk1 := ok_one (i := k) hS hP (by omega) hy
                rw [e1] at hq hk1
                refine go_istore (y := mX11_doesAll) (pc := 82) dX11_doesAll_82 (by decide) ?_
                refine go_aload_n (y := mX11_doesAll) (pc := 84) dX11_doesAll_84 rfl rfl ?_
                refine go_mget (y := mX11_doesAll) (pc := 85) dX11_doesAll_85 fl_X11_83 rfl rfl (by decide) (fun r85 => ?_)
                refine go_top (b := 0) ((wr_s _ _ _ _)) (fun t85 => ?_)
                refine go_if_eq (y := mX11_doesAll) (pc := 88) (tgt := 93) dX11_doesAll_88 (by decide) (by omega) (fun h88 => ?_) (fun h88 => ?_)
                · skip
                  refine go_aload_n (y := mX11_doesAll) (pc := 93) dX11_doesAll_93 rfl rfl ?_
                  refine go_dup (y := mX11_doesAll) (pc := 94) dX11_doesAll_94 rfl ?_
                  refine go_mget (y := mX11_doesAll) (pc := 95) dX11_doesAll_95 fl_X11_326 rfl rfl (by decide) (fun r95 => ?_)
                  refine go_top (b := y.2.1) ((by rw [wr_ni (by decide)]; exact h3)) (fun t95 => ?_)
                  refine go_iconst (y := mX11_doesAll) (pc := 98) dX11_doesAll_98 ?_
                  refine go_iadd (y := mX11_doesAll) (pc := 99) dX11_doesAll_99 ?_
                  refine go_mput (y := mX11_doesAll) (pc := 100) dX11_doesAll_100 fp_X11_326 rfl rfl (by decide) (by omega) ?_
                  refine go_iinc (y := mX11_doesAll) (pc := 103) dX11_doesAll_103 rfl (by decide) ?_
                  refine go_goto (y := mX11_doesAll) (pc := 106) (tgt := 2) dX11_doesAll_106 (by decide) ?_
                  exact ih (k + 1) _ _ _ ν79 hw9 (by omega) (by omega) hk1 rfl e79 (smD_t (smD_w (by decide)) (smD_t (smD_w (by decide)) h2)) (wr_s _ _ _ _) hq
                · skip
                  exact absurd rfl h88
              · skip
                have e1 : one τ S k y = (y.1, y.2.1, true) := if_pos (Or.inr g)
                rw [e1, rnB_st _ _ _ _ rfl] at hq
                refine go_istore (y := mX11_doesAll) (pc := 82) dX11_doesAll_82 (by decide) ?_
                refine go_aload_n (y := mX11_doesAll) (pc := 84) dX11_doesAll_84 rfl rfl ?_
                refine go_mget (y := mX11_doesAll) (pc := 85) dX11_doesAll_85 fl_X11_83 rfl rfl (by decide) (fun r85 => ?_)
                refine go_top (b := t79) ((wr_s _ _ _ _)) (fun t85 => ?_)
                refine go_if_eq (y := mX11_doesAll) (pc := 88) (tgt := 93) dX11_doesAll_88 (by decide) (by omega) (fun h88 => ?_) (fun h88 => ?_)
                · skip
                  exact absurd h88 (by omega)
                · skip
                  refine go_iconst (y := mX11_doesAll) (pc := 91) dX11_doesAll_91 ?_
                  refine go_zreturn (y := mX11_doesAll) (pc := 92) dX11_doesAll_92 rfl (by omega) ?_
                  exact fin _ _ ν1 hq rfl h1 (smD_t (smD_w (by decide)) (smD_t (smD_w (by decide)) h2)) (by rw [wr_ni (by decide), wr_ni (by decide)]; exact h3)
            · skip
              refine go_iconst (y := mX11_doesAll) (pc := 75) dX11_doesAll_75 ?_
              refine go_zreturn (y := mX11_doesAll) (pc := 76) dX11_doesAll_76 rfl (by omega) ?_
              have e1 : one τ S k y = (y.1, y.2.1, true) := if_pos (Or.inl (by omega))
              rw [e1, rnB_st _ _ _ _ rfl] at hq
              exact fin _ σ1 ν1 hq rfl h1 h2 h3
          · skip
            skip
            have h8 : τ 5 k = 8 := by omega
            rcases hw with w | ⟨w1, w | ⟨w2, w3, e, w4, w5, w6, w7, w8⟩⟩
            · exact absurd w hbk
            · exact absurd h8 w.1
            · skip
              rw [if_pos h8, w6] at hq
              rw [show ((e : Int)).toNat = e from rfl] at hq
              obtain ⟨G, eG⟩ : ∃ G, G = rnB τ S n (k + 1) e := ⟨_, rfl⟩
              rw [← eG] at hq
              have hG : ∀ y, okR S y → okR S (G y) := fun y hy => by rw [eG]; exact ok_rnB hS hP n 1 (k + 1) e y w7 (by omega) hy
              have hGs : ∀ y : Rst, y.2.2 = true → G y = y := fun y hy => by rw [eG]; exact rnB_st _ _ _ _ hy
              have t8 := hPa.2.2 h8
              have inner : ∀ (t k2 : Nat) (y : Rst) (σ1 : Mem) (ν1 : Nat → Int), k2 + t = (τ 8 k).toNat → okR S y → y.2.2 = false → rel S y.1 ν1 → smD σ1 σ → σ1 0 23 = y.2.1 → rnB τ S n e b (itr G t y) = X9 → go 289 10 0 0 mX11_doesAll Q X 21 [.ref 276, .int (iI (a : Nat)), .int (iI (b : Nat)), .int (iI (k : Nat)), .int (iI (k2 : Nat))] [] (md σ1 ν1 μ) := by
                intro t
                induction t with
                | zero =>
                  intro k2 y σ1 ν1 hk2 hy hf h1 h2 h3 hq
                  have hck : crel τ σ1 k := crel_f (hc k hak (by omega)) (fun _ _ _ => rfl) (fun a h8 h11 => h2 a k (Or.inl (by omega)))
                  rw [itr] at hq
                  refine go_iload (y := mX11_doesAll) (pc := 21) dX11_doesAll_21 rfl ?_
                  refine go_aload_n (y := mX11_doesAll) (pc := 23) dX11_doesAll_23 rfl rfl ?_
                  refine go_mref (y := mX11_doesAll) (pc := 24) dX11_doesAll_24 fl_X11_42 rfl rfl (by decide) ?_
                  refine go_iload_n (y := mX11_doesAll) (pc := 27) dX11_doesAll_27 rfl rfl ?_
                  refine go_mial (y := mX11_doesAll) (pc := 28) (r := 10) (k := k) dX11_doesAll_28 (by decide) (by decide) rfl (by decide) rfl (by omega) (by decide) (fun r28 => ?_)
                  refine go_top (b := τ 8 k) ((hck.2.2.2.1 (by omega))) (fun t28 => ?_)
                  refine go_icmp_ge (y := mX11_doesAll) (pc := 29) (tgt := 56) dX11_doesAll_29 (by decide) (by omega) (by omega) (fun h29 => ?_) (fun h29 => ?_)
                  · skip
                    refine go_aload_n (y := mX11_doesAll) (pc := 56) dX11_doesAll_56 rfl rfl ?_
                    refine go_mref (y := mX11_doesAll) (pc := 57) dX11_doesAll_57 fl_X11_45 rfl rfl (by decide) ?_
                    refine go_iload_n (y := mX11_doesAll) (pc := 60) dX11_doesAll_60 rfl rfl ?_
                    refine go_mial (y := mX11_doesAll) (pc := 61) (r := 11) (k := k) dX11_doesAll_61 (by decide) (by decide) rfl (by decide) rfl (by omega) (by decide) (fun r61 => ?_)
                    refine go_top (b := ((e : Nat) : Int)) (((hck.2.2.2.2.2 h8).1.trans w6)) (fun t61 => ?_)
                    refine go_istore_n (y := mX11_doesAll) (pc := 62) dX11_doesAll_62 rfl (by decide) ?_
                    refine go_goto (y := mX11_doesAll) (pc := 63) (tgt := 2) dX11_doesAll_63 (by decide) ?_
                    exact ih e _ y σ1 ν1 w8 (by omega) (by omega) hy hf h1 h2 h3 hq
                  · skip
                    exact absurd h29 (by omega)
                | succ t iht =>
                  intro k2 y σ1 ν1 hk2 hy hf h1 h2 h3 hq
                  have hck : crel τ σ1 k := crel_f (hc k hak (by omega)) (fun _ _ _ => rfl) (fun a h8 h11 => h2 a k (Or.inl (by omega)))
                  have k24 : σ1 0 24 ≠ 0 := by rw [h2 0 24 (Or.inr (by decide))]; exact h24
                  have k6 : 0 ≤ σ1 0 6 ∧ σ1 0 6 ≤ 8 := by rw [h2 0 6 (Or.inr (by decide))]; exact h6
                  rw [itr] at hq
                  refine go_iload (y := mX11_doesAll) (pc := 21) dX11_doesAll_21 rfl ?_
                  refine go_aload_n (y := mX11_doesAll) (pc := 23) dX11_doesAll_23 rfl rfl ?_
                  refine go_mref (y := mX11_doesAll) (pc := 24) dX11_doesAll_24 fl_X11_42 rfl rfl (by decide) ?_
                  refine go_iload_n (y := mX11_doesAll) (pc := 27) dX11_doesAll_27 rfl rfl ?_
                  refine go_mial (y := mX11_doesAll) (pc := 28) (r := 10) (k := k) dX11_doesAll_28 (by decide) (by decide) rfl (by decide) rfl (by omega) (by decide) (fun r28 => ?_)
                  refine go_top (b := τ 8 k) ((hck.2.2.2.1 (by omega))) (fun t28 => ?_)
                  refine go_icmp_ge (y := mX11_doesAll) (pc := 29) (tgt := 56) dX11_doesAll_29 (by decide) (by omega) (by omega) (fun h29 => ?_) (fun h29 => ?_)
                  · skip
                    exact absurd h29 (by omega)
                  · skip
                    refine go_aload_n (y := mX11_doesAll) (pc := 32) dX11_doesAll_32 rfl rfl ?_
                    refine go_iload_n (y := mX11_doesAll) (pc := 33) dX11_doesAll_33 rfl rfl ?_
                    refine go_iconst (y := mX11_doesAll) (pc := 34) dX11_doesAll_34 ?_
                    refine go_iadd (y := mX11_doesAll) (pc := 35) dX11_doesAll_35 ?_
                    refine go_aload_n (y := mX11_doesAll) (pc := 36) dX11_doesAll_36 rfl rfl ?_
                    refine go_mref (y := mX11_doesAll) (pc := 37) dX11_doesAll_37 fl_X11_45 rfl rfl (by decide) ?_
                    refine go_iload_n (y := mX11_doesAll) (pc := 40) dX11_doesAll_40 rfl rfl ?_
                    refine go_mial (y := mX11_doesAll) (pc := 41) (r := 11) (k := k) dX11_doesAll_41 (by decide) (by decide) rfl (by decide) rfl (by omega) (by decide) (fun r41 => ?_)
                    refine go_top (b := ((e : Nat) : Int)) (((hck.2.2.2.2.2 h8).1.trans w6)) (fun t41 => ?_)
                    refine go_callV2 (y := mX11_doesAll) (pc := 42) (y' := mX11_doesAll) (kc2 := 0) (ks2 := 0) dX11_doesAll_42 ml_X11_323 ok_X11_doesAll (show shp 276 = _ from rfl) ⟨_, _, rfl⟩ (by decide) ⟨rfl, rfl⟩ (by decide) (Nat.le_of_ble_eq_true rfl) rfl (m_doesAll1 (τ := τ) (x := y) (n := n) (a := k + 1) (b := e) w7 (by omega) hP (by omega) (fun j hj1 hj2 => crel_f (hc j (by omega) (by omega)) (fun _ _ _ => rfl) (fun a h8 h11 => h2 a j (Or.inl (by omega)))) k24 k6 h3 hf h1 hS hy (fun σ42 ν42 v42 e42 b42 x42 w42 y42 => ?_))
                    rw [← eG] at e42 x42 y42
                    refine go_if_ne (y := mX11_doesAll) (pc := 45) (tgt := 50) dX11_doesAll_45 (by decide) (by omega) (fun h45 => ?_) (fun h45 => ?_)
                    · skip
                      have g := bI_1 e42 h45
                      refine go_iinc (y := mX11_doesAll) (pc := 50) dX11_doesAll_50 rfl (by decide) ?_
                      refine go_goto (y := mX11_doesAll) (pc := 53) (tgt := 21) dX11_doesAll_53 (by decide) ?_
                      exact iht (k2 + 1) (G y) σ42 ν42 (by omega) (hG y hy) g x42 (smD_t w42 h2) y42 hq
                    · skip
                      have g : (G y).2.2 = true := by
                        have h9 := bI_0 e42 h45
                        revert h9
                        cases (G y).2.2 <;> decide
                      rw [itr_st hGs t _ g, rnB_st _ _ _ _ g] at hq
                      refine go_iconst (y := mX11_doesAll) (pc := 48) dX11_doesAll_48 ?_
                      refine go_zreturn (y := mX11_doesAll) (pc := 49) dX11_doesAll_49 rfl (by omega) ?_
                      exact fin _ σ42 ν42 hq g x42 (smD_t w42 h2) y42
              refine go_iconst (y := mX11_doesAll) (pc := 18) dX11_doesAll_18 ?_
              refine go_istore (y := mX11_doesAll) (pc := 19) dX11_doesAll_19 (by decide) ?_
              exact inner (τ 8 k).toNat 0 y σ1 ν1 (by omega) hy hf h1 h2 h3 hq
  refine go_iload_n (y := mX11_doesAll) (pc := 0) dX11_doesAll_0 rfl rfl ?_
  refine go_istore_n (y := mX11_doesAll) (pc := 1) dX11_doesAll_1 rfl (by decide) ?_
  exact loop n a .null x σ ν hw (Nat.le_refl _) ha30 hx hst hr (smD_r σ) h23 eX.symm
end MRun
