/-! SCRIPTS READ BY THE MODEL: brackets, commands, blocks -/
theorem cms_0 {f : Int → Int} {L : Nat} {B : Blk} {d : Nat} {x : Sta × Mem} (h : (cms f L B d x).1.2.1 = 0) : (cmd f L B d x).1.2.1 = 0 ∧ kwV f L x.1 ≠ -1 ∧ x.2 4 5 < 30 := by
  have h1 : (cmd f L B d x).1.2.1 = 0 := (gm_0 (show (1 : Int) ≠ 0 by decide) h).1
  refine ⟨h1, ?_⟩
  by_cases g : kwV f L x.1 = -1
  · rw [cmd_n g] at h1
    exact absurd (gm_0 (show (1 : Int) ≠ 0 by decide) h1).2 (by decide)
  · by_cases g2 : 30 ≤ x.2 4 5
    · rw [cmd_t g g2] at h1
      exact absurd (gm_0 (show (4 : Int) ≠ 0 by decide) h1).2 (by decide)
    · exact ⟨g, by omega⟩
theorem brS_0 {f : Int → Int} {L : Nat} {B : Blk} {d : Nat} {x : Sta × Mem} (h : (brS f L B d x).1.2.1 = 0) : ¬ 2 ≤ d ∧ (B (gon f L (sgn f x.1 40), x.2)).1.2.1 = 0 := by
  unfold brS at h
  by_cases g : 2 ≤ d
  · rw [if_pos g] at h
    exact absurd (gm_0 (show (4 : Int) ≠ 0 by decide) h).2 (fun w => w)
  · rw [if_neg g] at h
    exact ⟨g, (gm_0 (show (1 : Int) ≠ 0 by decide) h).1⟩
theorem rom_e {f : Int → Int} {L : Nat} {s s' : Sta} {σ : Mem} (h : rom f L s σ) (e : s = s') : rom f L s' σ := e ▸ h
/-- names in the memory are the setup's -/
def nmT (S τ : Mem) : Prop := τ 10 7 = S 0 7 ∧ ∀ m : Nat, τ 11 m = S 1 m
theorem nmT_f {f : Int → Int} {L : Nat} {B : Blk} (hB : frB f L B) {S : Mem} {x : Sta × Mem} (hI : okI f L x.2) (h : nmT S x.2) : nmT S (B x).2 := by
  obtain ⟨-, -, h3, -⟩ := hB x hI
  exact ⟨by rw [h3 10 7 (by decide)]; exact h.1, fun m => by rw [h3 11 m (by decide)]; exact h.2 m⟩
theorem nmT_o {f : Int → Int} {L : Nat} {k : Int} {i : Nat} {s : Sta} {S τ : Mem} (h : nmT S τ) : nmT S (opr f L k i s τ).2 := ⟨by rw [opr_o (by omega)]; exact h.1, fun m => by rw [opr_o (by omega)]; exact h.2 m⟩
theorem nmT_1 {k : Int} {S τ : Mem} (h : nmT S τ) : nmT S (cm1 k τ) := ⟨by rw [cm1_o (by omega)]; exact h.1, fun m => by rw [cm1_o (by omega)]; exact h.2 m⟩
/-- the commands from a on, to the last -/
def crs (r a : Nat) (τ σ : Mem) : Prop := σ 0 22 = τ 4 5 ∧ (∀ k : Nat, a ≤ k → (k : Int) < τ 4 5 → crel τ σ k) ∧ ∃ n, wfb τ r n a (τ 4 5).toNat
/-- all but the reader's numbers, the number of commands, the operands of i and the commands behind it is the same -/
def smR (i : Nat) (σ' σ : Mem) : Prop := ∀ r j : Nat, (r ≠ 0 ∨ j < 12 ∨ (17 < j ∧ j ≠ 22)) → (r < 8 ∨ 11 < r ∨ j < i ∨ (r = 8 ∧ j = i)) → σ' r j = σ r j
theorem smR_t {i : Nat} {a b c : Mem} (h : smR i a b) (g : smR i b c) : smR i a c := fun r j w w2 => (h r j w w2).trans (g r j w w2)
theorem smR_s {i : Nat} {a b : Mem} (h : smo a b) : smR i a b := fun r j w _ => h r j (by omega)
theorem smR_F {i : Nat} {a b : Mem} (h : smF (i + 1) a b) : smR i a b := fun r j w w2 => h r j w (by omega)
theorem smR_w {i r : Nat} {σ : Mem} {v : Int} (h : 9 ≤ r ∧ r ≤ 11) : smR i (wr σ r i v) σ := fun a j w w2 => wr_n (by omega)
section MBlock
variable {S t σ μ τ : Mem} {ν : Nat → Int} {f : Int → Int} {L : Nat} {s : Sta}
set_option maxRecDepth 8000 in
set_option maxHeartbeats 4000000 in
theorem m_readsDead {w : Int} (hr : rom f L s σ) (hs : s.2.1 ≠ 0) {Q : Option Value → Mem → Prop} {X : String → Mem → Prop} (K : Q none (md σ ν μ)) : mt 289 0 0 0 mX11_readsCommands [.ref 276, .int (iI w)] Q X (md σ ν μ) := by
  show go 289 0 0 0 mX11_readsCommands Q X 0 [.ref 276, .int (iI w)] [] _
  refine go_aload_n (y := mX11_readsCommands) (pc := 0) dX11_readsCommands_0 rfl rfl ?_
  refine go_mget (y := mX11_readsCommands) (pc := 1) dX11_readsCommands_1 fl_X11_189 rfl rfl (by decide) (fun r1 => ?_)
  refine go_top (b := s.2.1) (hr.2.2.2.2.1) (fun t1 => ?_)
  refine go_if_ne (y := mX11_readsCommands) (pc := 4) (tgt := 31) dX11_readsCommands_4 (by decide) (by omega) (fun h4 => ?_) (fun h4 => ?_)
  · skip
    refine go_return (y := mX11_readsCommands) (pc := 31) dX11_readsCommands_31 rfl ?_
    exact K
  · skip
    exact absurd h4 hs
set_option maxRecDepth 8000 in
set_option maxHeartbeats 4000000 in
theorem m_readsRepeat0 {i : Nat} (hi : i < 30) (hr : rom f L s σ) (h22 : s.2.1 = 0 → σ 0 22 = τ 4 5) (h4 : τ 4 5 = i + 1) (hI : okI f L τ) {Q : Option Value → Mem → Prop} {X : String → Mem → Prop} (K : ∀ σ', rom f L (brS f L (bkm f L) 2 (opr f L 8 i s τ)).1 σ' → smR i σ' σ → Q none (md σ' ν μ)) : mt 289 4 0 0 mX11_readsRepeat [.ref 276, .int (iI (i : Nat)), .int (iI 2)] Q X (md σ ν μ) := by
  show go 289 4 0 0 mX11_readsRepeat Q X 0 [.ref 276, .int (iI (i : Nat)), .int (iI 2)] [] _
  obtain ⟨x1, ex1⟩ : ∃ x1, x1 = num3 f L s 0 20 := ⟨_, rfl⟩
  have ex : (opr f L 8 i s τ).1 = x1 := ex1.symm
  have eb : (brS f L (bkm f L) 2 (opr f L 8 i s τ)).1 = gon f L (mus (sgn f x1 40) False 4) := by
    unfold brS
    rw [if_pos (by decide), ex]
  rw [eb] at K
  have ne : (gon f L (mus (sgn f x1 40) False 4)).2.1 ≠ 0 := fun w => (gm_0 (show (4 : Int) ≠ 0 by decide) w).2
  have eN : gon f L (mus (gon f L (mus (sgn f x1 40) False 4)) (tkK f (gon f L (mus (sgn f x1 40) False 4)).1 = 3 ∧ f ((gon f L (mus (sgn f x1 40) False 4)).1 : Nat) = 41) 1) = gon f L (mus (sgn f x1 40) False 4) := by
    rw [mus_c ne, gon_c ne]
  have J43 : ∀ σ1 : Mem, rom f L (mus (sgn f x1 40) False 4) σ1 → smR i σ1 σ → go 289 4 0 0 mX11_readsRepeat Q X 43 [.ref 276, .int (iI (i : Nat)), .int (iI 2)] [] (md σ1 ν μ) := by
    intro σ1 h1 hw
    refine go_aload_n (y := mX11_readsRepeat) (pc := 43) dX11_readsRepeat_43 rfl rfl ?_
    refine go_callV0 (y := mX11_readsRepeat) (pc := 44) (y' := mX11_goesOn) (kc2 := 0) (ks2 := 0) dX11_readsRepeat_44 ml_X11_208 ok_X11_goesOn (show shp 276 = _ from rfl) ⟨_, _, rfl⟩ (by decide) trivial (by decide) (Nat.le_of_ble_eq_true rfl) rfl (m_goesOn h1 (fun σ44 e44 w44 => ?_))
    refine go_aload_n (y := mX11_readsRepeat) (pc := 47) dX11_readsRepeat_47 rfl rfl ?_
    refine go_iload_n (y := mX11_readsRepeat) (pc := 48) dX11_readsRepeat_48 rfl rfl ?_
    refine go_iconst (y := mX11_readsRepeat) (pc := 49) dX11_readsRepeat_49 ?_
    refine go_iadd (y := mX11_readsRepeat) (pc := 50) dX11_readsRepeat_50 ?_
    refine go_callV1 (y := mX11_readsRepeat) (pc := 51) (y' := mX11_readsCommands) (kc2 := 0) (ks2 := 0) dX11_readsRepeat_51 ml_X11_258 ok_X11_readsCommands (show shp 276 = _ from rfl) ⟨_, _, rfl⟩ (by decide) rfl (by decide) (Nat.le_of_ble_eq_true rfl) rfl (m_readsDead e44 ne ?_)
    refine go_aload_n (y := mX11_readsRepeat) (pc := 54) dX11_readsRepeat_54 rfl rfl ?_
    refine go_bipush (y := mX11_readsRepeat) (pc := 55) dX11_readsRepeat_55 (by decide) ?_
    refine go_callV1 (y := mX11_readsRepeat) (pc := 57) (y' := mX11_takesSign) (kc2 := 0) (ks2 := 0) dX11_readsRepeat_57 ml_X11_225 ok_X11_takesSign (show shp 276 = _ from rfl) ⟨_, _, rfl⟩ (by decide) rfl (by decide) (Nat.le_of_ble_eq_true rfl) rfl (m_takesSign (by omega) e44 (fun σ57 e57 w57 => ?_))
    rw [eN] at e57
    refine go_aload_n (y := mX11_readsRepeat) (pc := 60) dX11_readsRepeat_60 rfl rfl ?_
    refine go_mref (y := mX11_readsRepeat) (pc := 61) dX11_readsRepeat_61 fl_X11_45 rfl rfl (by decide) ?_
    refine go_iload_n (y := mX11_readsRepeat) (pc := 64) dX11_readsRepeat_64 rfl rfl ?_
    refine go_aload_n (y := mX11_readsRepeat) (pc := 65) dX11_readsRepeat_65 rfl rfl ?_
    refine go_mget (y := mX11_readsRepeat) (pc := 66) dX11_readsRepeat_66 fl_X11_261 rfl rfl (by decide) (fun r66 => ?_)
    refine go_mias (y := mX11_readsRepeat) (pc := 69) (r := 11) (k := i) dX11_readsRepeat_69 (by decide) (by decide) rfl (by decide) rfl (by omega) (by decide) (by omega) ?_
    refine go_return (y := mX11_readsRepeat) (pc := 70) dX11_readsRepeat_70 rfl ?_
    exact K _ (rom_w e57 (Or.inl (by decide))) (smR_t (smR_w (by decide)) (smR_t (smR_s w57) (smR_t (smR_s w44) hw)))
  refine go_aload_n (y := mX11_readsRepeat) (pc := 0) dX11_readsRepeat_0 rfl rfl ?_
  refine go_mref (y := mX11_readsRepeat) (pc := 1) dX11_readsRepeat_1 fl_X11_42 rfl rfl (by decide) ?_
  refine go_iload_n (y := mX11_readsRepeat) (pc := 4) dX11_readsRepeat_4 rfl rfl ?_
  refine go_aload_n (y := mX11_readsRepeat) (pc := 5) dX11_readsRepeat_5 rfl rfl ?_
  refine go_iconst (y := mX11_readsRepeat) (pc := 6) dX11_readsRepeat_6 ?_
  refine go_bipush (y := mX11_readsRepeat) (pc := 7) dX11_readsRepeat_7 (by decide) ?_
  refine go_callV2 (y := mX11_readsRepeat) (pc := 9) (y' := mX11_number) (kc2 := 0) (ks2 := 0) dX11_readsRepeat_9 ml_X11_222 ok_X11_number (show shp 276 = _ from rfl) ⟨_, _, rfl⟩ (by decide) ⟨rfl, rfl⟩ (by decide) (Nat.le_of_ble_eq_true rfl) rfl (m_number (by omega) (by omega) hr (fun σ9 v9 e9 w9 x9 => ?_))
  rw [← ex1] at e9
  refine go_miasW (y := mX11_readsRepeat) (pc := 12) (r := 10) (k := i) dX11_readsRepeat_12 (by decide) (by decide) rfl (by decide) rfl (by omega) (by decide)  ?_
  refine go_aload_n (y := mX11_readsRepeat) (pc := 13) dX11_readsRepeat_13 rfl rfl ?_
  refine go_aload_n (y := mX11_readsRepeat) (pc := 14) dX11_readsRepeat_14 rfl rfl ?_
  refine go_bipush (y := mX11_readsRepeat) (pc := 15) dX11_readsRepeat_15 (by decide) ?_
  refine go_callV1 (y := mX11_readsRepeat) (pc := 17) (y' := mX11_isSign) (kc2 := 0) (ks2 := 0) dX11_readsRepeat_17 ml_X11_202 ok_X11_isSign (show shp 276 = _ from rfl) ⟨_, _, rfl⟩ (by decide) rfl (by decide) (Nat.le_of_ble_eq_true rfl) rfl (m_isSign (by omega) (rom_w e9 (Or.inl (by decide))) (fun v17 e17 b17 => ?_))
  refine go_iconst (y := mX11_readsRepeat) (pc := 20) dX11_readsRepeat_20 ?_
  refine go_callV2 (y := mX11_readsRepeat) (pc := 21) (y' := mX11_must) (kc2 := 0) (ks2 := 0) dX11_readsRepeat_21 ml_X11_205 ok_X11_must (show shp 276 = _ from rfl) ⟨_, _, rfl⟩ (by decide) ⟨rfl, rfl⟩ (by decide) (Nat.le_of_ble_eq_true rfl) rfl (m_must e17 (by decide) (rom_w e9 (Or.inl (by decide))) (fun σ21 v21 e21 w21 b21 c21 => ?_))
  rw [mus_a] at e21 b21
  refine go_if_eq (y := mX11_readsRepeat) (pc := 24) (tgt := 43) dX11_readsRepeat_24 (by decide) (by omega) (fun h24 => ?_) (fun h24 => ?_)
  · skip
    have g := bI_0 b21 h24
    refine J43 σ21 ?_ (smR_t (smR_s w21) (smR_t (smR_w (by decide)) (smR_s w9)))
    rw [mus_c (s := sgn f x1 40) g]
    exact e21
  · skip
    refine go_aload_n (y := mX11_readsRepeat) (pc := 27) dX11_readsRepeat_27 rfl rfl ?_
    refine go_iload_n (y := mX11_readsRepeat) (pc := 28) dX11_readsRepeat_28 rfl rfl ?_
    refine go_iconst (y := mX11_readsRepeat) (pc := 29) dX11_readsRepeat_29 ?_
    refine go_icmp_ge (y := mX11_readsRepeat) (pc := 30) (tgt := 37) dX11_readsRepeat_30 (by decide) (by omega) (by omega) (fun h30 => ?_) (fun h30 => ?_)
    · skip
      refine go_iconst (y := mX11_readsRepeat) (pc := 37) dX11_readsRepeat_37 ?_
      refine go_iconst (y := mX11_readsRepeat) (pc := 38) dX11_readsRepeat_38 ?_
      refine go_callV2 (y := mX11_readsRepeat) (pc := 39) (y' := mX11_must) (kc2 := 0) (ks2 := 0) dX11_readsRepeat_39 ml_X11_205 ok_X11_must (show shp 276 = _ from rfl) ⟨_, _, rfl⟩ (by decide) ⟨rfl, rfl⟩ (by decide) (Nat.le_of_ble_eq_true rfl) rfl (m_must (p := False) (by rfl) (by decide) e21 (fun σ39 v39 e39 w39 b39 c39 => ?_))
      refine go_pop (y := mX11_readsRepeat) (pc := 42) dX11_readsRepeat_42 rfl ?_
      exact J43 σ39 e39 (smR_t (smR_s w39) (smR_t (smR_s w21) (smR_t (smR_w (by decide)) (smR_s w9))))
    · skip
      exact absurd h30 (by decide)
set_option maxRecDepth 8000 in
set_option maxHeartbeats 4000000 in
theorem m_readsCommand0 (hr : rom f L s σ) (hs : s.2.1 = 0) (h22 : σ 0 22 = τ 4 5) (hI : okI f L τ) (hrl : rel S t ν) (hS : wfS S) (hN : ∀ m : Nat, (m : Int) < S 0 7 → isn 6 (S 1 m)) (hT : nmT S τ) {Q : Option Value → Mem → Prop} {X : String → Mem → Prop} (K : kwV f L s = -1 → ∀ σ', rom f L (mus s False 1) σ' → smo σ' σ → Q none (md σ' ν μ)) (K2 : kwV f L s ≠ -1 → ∀ σ', rom f L (cms f L (bkm f L) 2 (s, τ)).1 σ' → smF (τ 4 5).toNat σ' σ → ((cms f L (bkm f L) 2 (s, τ)).1.2.1 = 0 → crs 0 (τ 4 5).toNat (cms f L (bkm f L) 2 (s, τ)).2 σ') → Q none (md σ' ν μ)) : mt 289 7 0 0 mX11_readsCommand [.ref 276, .int (iI 2)] Q X (md σ ν μ) := by
  show go 289 7 0 0 mX11_readsCommand Q X 0 [.ref 276, .int (iI 2), .null, .null] [] _
  have hc := hI.2.2
  have sL := hr.2.2.2.2.2.2.2
  have tb := tkE_b (b := s.1) sL hr.1.2.2.2
  have J45 : ∀ (v : Int) (σ1 : Mem), Q none (md σ1 ν μ) → go 289 7 0 0 mX11_readsCommand Q X 45 [.ref 276, .int (iI 2), .int (iI v), .null] [] (md σ1 ν μ) := by
    intro v σ1 hQ
    refine go_return (y := mX11_readsCommand) (pc := 45) dX11_readsCommand_45 rfl ?_
    exact hQ
  have Jw : ∀ v c : Int, v = kwV f L s → -1 ≤ v ∧ v ≤ 8 → c = bI (kwV f L s ≠ -1) → go 289 7 0 0 mX11_readsCommand Q X 16 [.ref 276, .int (iI 2), .int (iI v), .null] [.int (iI c), .ref 276] (md σ ν μ) := by
    intro v c ev bv hc9
    refine go_iconst (y := mX11_readsCommand) (pc := 16) dX11_readsCommand_16 ?_
    refine go_callV2 (y := mX11_readsCommand) (pc := 17) (y' := mX11_must) (kc2 := 0) (ks2 := 0) dX11_readsCommand_17 ml_X11_205 ok_X11_must (show shp 276 = _ from rfl) ⟨_, _, rfl⟩ (by decide) ⟨rfl, rfl⟩ (by decide) (Nat.le_of_ble_eq_true rfl) rfl (m_must hc9 (by decide) hr (fun σ17 v17 e17 w17 b17 c17 => ?_))
    refine go_if_eq (y := mX11_readsCommand) (pc := 20) (tgt := 45) dX11_readsCommand_20 (by decide) (by omega) (fun h20 => ?_) (fun h20 => ?_)
    · skip
      have g := bI_0 b17 h20
      have gk : kwV f L s = -1 := by
        by_cases q : kwV f L s = -1
        · exact q
        · rw [mus_t q] at g
          exact absurd hs g
      refine J45 v σ17 (K gk σ17 ?_ w17)
      rw [mus_e (q := False) (iff_of_false (fun w => w gk) (fun w => w))] at e17
      exact e17
    · skip
      have g := bI_1 b17 h20
      have gk : kwV f L s ≠ -1 := (mus_0 (show (1 : Int) ≠ 0 by decide) g).2
      rw [mus_t gk] at e17
      have q22 : σ17 0 22 = τ 4 5 := (w17 0 22 (by omega)).trans h22
      have J38 : ∀ c : Int, c = bI (τ 4 5 < 30) → go 289 7 0 0 mX11_readsCommand Q X 38 [.ref 276, .int (iI 2), .int (iI v), .null] [.int (iI c), .ref 276] (md σ17 ν μ) := by
        intro c hc8
        refine go_iconst (y := mX11_readsCommand) (pc := 38) dX11_readsCommand_38 ?_
        refine go_callV2 (y := mX11_readsCommand) (pc := 39) (y' := mX11_must) (kc2 := 0) (ks2 := 0) dX11_readsCommand_39 ml_X11_205 ok_X11_must (show shp 276 = _ from rfl) ⟨_, _, rfl⟩ (by decide) ⟨rfl, rfl⟩ (by decide) (Nat.le_of_ble_eq_true rfl) rfl (m_must hc8 (by decide) e17 (fun σ39 v39 e39 w39 b39 c39 => ?_))
        refine go_if_ne (y := mX11_readsCommand) (pc := 42) (tgt := 46) dX11_readsCommand_42 (by decide) (by omega) (fun h42 => ?_) (fun h42 => ?_)
        · skip
          have g1 := bI_1 b39 h42
          have gl : τ 4 5 < 30 := (mus_0 (show (4 : Int) ≠ 0 by decide) g1).2
          rw [mus_t gl] at e39
          obtain ⟨n, en⟩ : ∃ n : Nat, τ 4 5 = n := ⟨(τ 4 5).toNat, by omega⟩
          have en' : (τ 4 5).toNat = n := by omega
          have r22 : σ39 0 22 = n := ((w39 0 22 (by omega)).trans q22).trans en
          have hI1 : okI f L (cm1 (kwV f L s) τ) := okI_cm1 hI gl
          have hT1 : nmT S (cm1 (kwV f L s) τ) := nmT_1 hT
          have h4R : cm1 (kwV f L s) τ 4 5 = n + 1 := by rw [cm1_4, en]
          have hg : gon f L s = (nxt f L s.1, 0, s.2.2) := if_pos hs
          have K2' := K2 gk
          rw [en'] at K2'
          have ec : cmd f L (bkm f L) 2 (s, τ) = ((cm3 f L (bkm f L) 2 (s, τ)).1, wr (cm3 f L (bkm f L) 2 (s, τ)).2 9 n ((cm3 f L (bkm f L) 2 (s, τ)).2 4 5)) := by
            rw [cmd_y (x := (s, τ)) gk gl]
            show _ = _
            rw [show ((s, τ) : Sta × Mem).2 4 5 = τ 4 5 from rfl, en']
          have ecs : cms f L (bkm f L) 2 (s, τ) = (gon f L (sgn f (cm3 f L (bkm f L) 2 (s, τ)).1 59), wr (cm3 f L (bkm f L) 2 (s, τ)).2 9 n ((cm3 f L (bkm f L) 2 (s, τ)).2 4 5)) := by
            unfold cms
            rw [ec]
          rw [ecs] at K2'
          dsimp only at K2'
          have e2 : cm2 f L (s, τ) = opr f L (kwV f L s) n (gon f L s) (cm1 (kwV f L s) τ) := by
            unfold cm2
            show opr f L (kwV f L s) (τ 4 5).toNat _ _ = _
            rw [en']
          have h3f := cm3_fr (d := 2) fr_m (x := (s, τ)) hI gl
          have h3I : okI f L (cm3 f L (bkm f L) 2 (s, τ)).2 := pv_cm3 pv_m (x := (s, τ)) hI gl
          have c5n : (cm3 f L (bkm f L) 2 (s, τ)).2 5 n = kwV f L s := by
            rw [h3f.2.1 5 n (by decide) (by decide) (show (n : Int) < τ 4 5 + 1 by omega), ← en']
            exact cm2_5 (x := (s, τ))
          obtain ⟨σ3, eσ3⟩ : ∃ σ3, σ3 = wr (wr σ39 8 n v) 0 22 (n + 1) := ⟨_, rfl⟩
          have hr3 : rom f L s σ3 := by rw [eσ3]; exact rom_w (rom_w e39 (Or.inl (by decide))) (Or.inr ⟨rfl, rfl⟩)
          have hB3 := hr3.1
          have h3s := hr3.2.2.2.1
          have hR := (rom_rd hB3 (hr3.2.2.2.2.1.trans hs) hr3.2.2.2.2.2.1 tb.2)
          have wR := hR.2
          have hR := hR.1
          have hR : rom f L (gon f L s) (rdM σ3 f L (tkB f L (tkE f L s.1))) := by rw [hg]; exact hR
          have f3 : smF n σ3 σ := by
            rw [eσ3]
            exact smF_t (smF_w (Or.inr ⟨rfl, rfl⟩)) (smF_t (smF_w (by omega)) (smF_t (smF_s w39) (smF_s w17)))
          have k3 : σ3 8 n = kwV f L s := by rw [eσ3, wr_na (by decide), wr_s, ev]
          have z3 : σ3 0 22 = n + 1 := by rw [eσ3, wr_s]
          have h22R : rdM σ3 f L (tkB f L (tkE f L s.1)) 0 22 = cm1 (kwV f L s) τ 4 5 := by rw [wR 0 22 (by omega), z3, h4R]
          have kR : rdM σ3 f L (tkB f L (tkE f L s.1)) 8 n = kwV f L s := (wR 8 n (Or.inl (by decide))).trans k3
          refine go_aload_n (y := mX11_readsCommand) (pc := 46) dX11_readsCommand_46 rfl rfl ?_
          refine go_mget (y := mX11_readsCommand) (pc := 47) dX11_readsCommand_47 fl_X11_261 rfl rfl (by decide) (fun r47 => ?_)
          refine go_top (b := ((n : Nat) : Int)) (r22) (fun t47 => ?_)
          refine go_istore_n (y := mX11_readsCommand) (pc := 50) dX11_readsCommand_50 rfl (by decide) ?_
          refine go_aload_n (y := mX11_readsCommand) (pc := 51) dX11_readsCommand_51 rfl rfl ?_
          refine go_mref (y := mX11_readsCommand) (pc := 52) dX11_readsCommand_52 fl_X11_36 rfl rfl (by decide) ?_
          refine go_iload_n (y := mX11_readsCommand) (pc := 55) dX11_readsCommand_55 rfl rfl ?_
          refine go_iload_n (y := mX11_readsCommand) (pc := 56) dX11_readsCommand_56 rfl rfl ?_
          refine go_mias (y := mX11_readsCommand) (pc := 57) (r := 8) (k := n) dX11_readsCommand_57 (by decide) (by decide) rfl (by decide) rfl (by omega) (by decide) (by omega) ?_
          refine go_aload_n (y := mX11_readsCommand) (pc := 58) dX11_readsCommand_58 rfl rfl ?_
          refine go_dup (y := mX11_readsCommand) (pc := 59) dX11_readsCommand_59 rfl ?_
          refine go_mget (y := mX11_readsCommand) (pc := 60) dX11_readsCommand_60 fl_X11_261 rfl rfl (by decide) (fun r60 => ?_)
          refine go_top (b := ((n : Nat) : Int)) ((by rw [wr_na (by decide)]; exact r22)) (fun t60 => ?_)
          refine go_iconst (y := mX11_readsCommand) (pc := 63) dX11_readsCommand_63 ?_
          skip
          refine go_iadd (y := mX11_readsCommand) (pc := 64) dX11_readsCommand_64 ?_
          refine go_mput (y := mX11_readsCommand) (pc := 65) dX11_readsCommand_65 fp_X11_261 rfl rfl (by decide) (by omega) ?_
          refine go_mem (show _ = md σ3 ν μ from congrArg (fun t => md t ν μ) eσ3.symm) ?_
          refine go_aload_n (y := mX11_readsCommand) (pc := 68) dX11_readsCommand_68 rfl rfl ?_
          refine go_callV0 (y := mX11_readsCommand) (pc := 69) (y' := mX11_reads) (kc2 := 0) (ks2 := 0) dX11_readsCommand_69 ml_X11_195 ok_X11_reads (show shp 276 = _ from rfl) ⟨_, _, rfl⟩ (by decide) trivial (by decide) (Nat.le_of_ble_eq_true rfl) rfl (m_reads (f := f) (L := L) (e := tkE f L s.1) hB3 h3s tb.2 ?_)
          refine go_mem (show _ = md (rdM σ3 f L (tkB f L (tkE f L s.1))) ν μ from rfl) ?_
          refine go_iload_n (y := mX11_readsCommand) (pc := 72) dX11_readsCommand_72 rfl rfl ?_
          refine go_bipush (y := mX11_readsCommand) (pc := 73) dX11_readsCommand_73 (by decide) ?_
          refine go_icmp_ne (y := mX11_readsCommand) (pc := 75) (tgt := 87) dX11_readsCommand_75 (by decide) (by omega) (by omega) (fun h75 => ?_) (fun h75 => ?_)
          · skip
            have em : cm3 f L (bkm f L) 2 (s, τ) = opr f L (kwV f L s) n (gon f L s) (cm1 (kwV f L s) τ) := by
              unfold cm3
              rw [if_neg (show ¬ kwV f L (s, τ).1 = 8 by show ¬ kwV f L s = 8; omega)]
              exact e2
            refine go_aload_n (y := mX11_readsCommand) (pc := 87) dX11_readsCommand_87 rfl rfl ?_
            refine go_iload_n (y := mX11_readsCommand) (pc := 88) dX11_readsCommand_88 rfl rfl ?_
            refine go_callV1 (y := mX11_readsCommand) (pc := 89) (y' := mX11_readsSingle) (kc2 := 0) (ks2 := 0) dX11_readsCommand_89 ml_X11_292 ok_X11_readsSingle (show shp 276 = _ from rfl) ⟨_, _, rfl⟩ (by decide) rfl (by decide) (Nat.le_of_ble_eq_true rfl) rfl (m_readsSingle (τ := cm1 (kwV f L s) τ) (s := gon f L s) (k := kwV f L s) (by omega) kR (by omega) hR hrl hS hN hT1 (fun σ89 e89 w89 y89 => ?_))
            refine go_aload_n (y := mX11_readsCommand) (pc := 92) dX11_readsCommand_92 rfl rfl ?_
            refine go_bipush (y := mX11_readsCommand) (pc := 93) dX11_readsCommand_93 (by decide) ?_
            refine go_callV1 (y := mX11_readsCommand) (pc := 95) (y' := mX11_takesSign) (kc2 := 0) (ks2 := 0) dX11_readsCommand_95 ml_X11_225 ok_X11_takesSign (show shp 276 = _ from rfl) ⟨_, _, rfl⟩ (by decide) rfl (by decide) (Nat.le_of_ble_eq_true rfl) rfl (m_takesSign (by omega) e89 (fun σ95 e95 w95 => ?_))
            refine go_return (y := mX11_readsCommand) (pc := 98) dX11_readsCommand_98 rfl ?_
            rw [em] at K2' c5n
            have o4 : (opr f L (kwV f L s) n (gon f L s) (cm1 (kwV f L s) τ)).2 4 5 = n + 1 := by rw [opr_o (by omega), h4R]
            refine K2' _ e95 (smF_t (smF_s w95) (smF_t (fun r j w w2 => w89 r j (by omega) (by omega)) (smF_t (smF_s wR) f3))) (fun g => ?_)
            have g9 := (gm_0 (show (1 : Int) ≠ 0 by decide) g).1
            have hv := y89 g9
            have t45 : (wr (opr f L (kwV f L s) n (gon f L s) (cm1 (kwV f L s) τ)).2 9 n ((opr f L (kwV f L s) n (gon f L s) (cm1 (kwV f L s) τ)).2 4 5)) 4 5 = n + 1 := by rw [wr_na (by decide), o4]
            have t5 : (wr (opr f L (kwV f L s) n (gon f L s) (cm1 (kwV f L s) τ)).2 9 n ((opr f L (kwV f L s) n (gon f L s) (cm1 (kwV f L s) τ)).2 4 5)) 5 n = kwV f L s := by rw [wr_na (by decide), c5n]
            refine ⟨?_, fun k hk1 hk2 => ?_, 1, ?_⟩
            · rw [t45, w95 0 22 (by omega), w89 0 22 (by omega) (by omega), h22R, h4R]
            · rw [t45] at hk2
              have ek : k = n := by omega
              subst ek
              unfold crel
              rw [t5]
              have a8 : σ95 8 k = kwV f L s := (w95 8 k (Or.inl (by decide))).trans ((w89 8 k (Or.inl (by decide)) (by omega)).trans kR)
              refine ⟨a8, by omega, fun w => ?_, fun w => ?_, fun w => ?_, fun w => absurd w (by omega)⟩
              · rw [w95 9 k (Or.inl (by decide)), wr_na (by decide)]
                exact hv.1 w
              · rw [w95 10 k (Or.inl (by decide)), wr_na (by decide)]
                exact hv.2.1 w
              · rw [w95 11 k (Or.inl (by decide)), wr_na (by decide)]
                exact hv.2.2 w
            · refine Or.inr ⟨by rw [t45]; omega, Or.inl ⟨by rw [t5]; omega, by rw [wr_s, o4]; omega, ?_⟩⟩
              show Int.toNat _ ≤ n + 1
              rw [t45]
              omega
          · skip
            skip
            have em : cm3 f L (bkm f L) 2 (s, τ) = brS f L (bkm f L) 2 (opr f L 8 n (gon f L s) (cm1 (kwV f L s) τ)) := by
              unfold cm3
              rw [if_pos (show kwV f L (s, τ).1 = 8 by show kwV f L s = 8; omega), e2, show kwV f L s = 8 by omega]
            have ne : ¬ (cm3 f L (bkm f L) 2 (s, τ)).1.2.1 = 0 := fun w => by rw [em] at w; exact (brS_0 w).1 (by decide)
            refine go_aload_n (y := mX11_readsCommand) (pc := 78) dX11_readsCommand_78 rfl rfl ?_
            refine go_iload_n (y := mX11_readsCommand) (pc := 79) dX11_readsCommand_79 rfl rfl ?_
            refine go_iload_n (y := mX11_readsCommand) (pc := 80) dX11_readsCommand_80 rfl rfl ?_
            refine go_callV2 (y := mX11_readsCommand) (pc := 81) (y' := mX11_readsRepeat) (kc2 := 0) (ks2 := 0) dX11_readsCommand_81 ml_X11_288 ok_X11_readsRepeat (show shp 276 = _ from rfl) ⟨_, _, rfl⟩ (by decide) ⟨rfl, rfl⟩ (by decide) (Nat.le_of_ble_eq_true rfl) rfl (m_readsRepeat0 (s := gon f L s) (τ := cm1 (kwV f L s) τ) (by omega) hR (fun _ => h22R) h4R hI1 (fun σ81 e81 w81 => ?_))
            rw [← em] at e81
            refine go_goto (y := mX11_readsCommand) (pc := 84) (tgt := 92) dX11_readsCommand_84 (by decide) ?_
            refine go_aload_n (y := mX11_readsCommand) (pc := 92) dX11_readsCommand_92 rfl rfl ?_
            refine go_bipush (y := mX11_readsCommand) (pc := 93) dX11_readsCommand_93 (by decide) ?_
            refine go_callV1 (y := mX11_readsCommand) (pc := 95) (y' := mX11_takesSign) (kc2 := 0) (ks2 := 0) dX11_readsCommand_95 ml_X11_225 ok_X11_takesSign (show shp 276 = _ from rfl) ⟨_, _, rfl⟩ (by decide) rfl (by decide) (Nat.le_of_ble_eq_true rfl) rfl (m_takesSign (by omega) e81 (fun σ95 e95 w95 => ?_))
            refine go_return (y := mX11_readsCommand) (pc := 98) dX11_readsCommand_98 rfl ?_
            exact K2' _ e95 (smF_t (smF_s w95) (smF_t (fun r j w w2 => w81 r j w (by omega)) (smF_t (smF_s wR) f3))) (fun g => absurd (gm_0 (show (1 : Int) ≠ 0 by decide) g).1 ne)
        · skip
          have g1 := bI_0 b39 h42
          have gl : ¬ τ 4 5 < 30 := fun q => by rw [mus_t q] at g1; exact g1 hs
          refine J45 v σ39 (K2 gk σ39 ?_ (smF_t (smF_s w39) (smF_s w17)) (fun w => absurd (cms_0 w).2.2 gl))
          have e1 : (cmd f L (bkm f L) 2 (s, τ)).1 = mus s False 4 := by
            rw [cmd_t (x := (s, τ)) gk (show 30 ≤ τ 4 5 by omega)]
            show gon f L (mus s ((4 : Int) = 0) 4) = mus s False 4
            rw [mus_e (q := False) (iff_of_false (by decide) (fun w => w)), mus_f hs (fun w => w)]
            exact gon_c (show (4 : Int) ≠ 0 by decide)
          have e3 : (cms f L (bkm f L) 2 (s, τ)).1 = mus s False 4 := by
            show gon f L (sgn f (cmd f L (bkm f L) 2 (s, τ)).1 59) = _
            rw [e1]
            unfold sgn
            rw [mus_f hs (fun w => w)]
            rw [mus_c (s := (s.1, 4, (s.1 : Int))) (show (4 : Int) ≠ 0 by decide)]
            exact gon_c (show (4 : Int) ≠ 0 by decide)
          rw [e3]
          rw [mus_e (q := False) (iff_of_false gl (fun w => w))] at e39
          exact e39
      refine go_aload_n (y := mX11_readsCommand) (pc := 23) dX11_readsCommand_23 rfl rfl ?_
      refine go_aload_n (y := mX11_readsCommand) (pc := 24) dX11_readsCommand_24 rfl rfl ?_
      refine go_mget (y := mX11_readsCommand) (pc := 25) dX11_readsCommand_25 fl_X11_261 rfl rfl (by decide) (fun r25 => ?_)
      refine go_top (b := τ 4 5) (q22) (fun t25 => ?_)
      refine go_bipush (y := mX11_readsCommand) (pc := 28) dX11_readsCommand_28 (by decide) ?_
      refine go_icmp_ge (y := mX11_readsCommand) (pc := 30) (tgt := 37) dX11_readsCommand_30 (by decide) (by omega) (by omega) (fun h30 => ?_) (fun h30 => ?_)
      · skip
        refine go_iconst (y := mX11_readsCommand) (pc := 37) dX11_readsCommand_37 ?_
        exact J38 0 (bI_f (by omega)).symm
      · skip
        refine go_iconst (y := mX11_readsCommand) (pc := 33) dX11_readsCommand_33 ?_
        refine go_goto (y := mX11_readsCommand) (pc := 34) (tgt := 38) dX11_readsCommand_34 (by decide) ?_
        exact J38 1 (bI_t (by omega)).symm
  refine go_aload_n (y := mX11_readsCommand) (pc := 0) dX11_readsCommand_0 rfl rfl ?_
  refine go_callV0 (y := mX11_readsCommand) (pc := 1) (y' := mX11_commandHere) (kc2 := 0) (ks2 := 0) dX11_readsCommand_1 ml_X11_285 ok_X11_commandHere (show shp 276 = _ from rfl) ⟨_, _, rfl⟩ (by decide) trivial (by decide) (Nat.le_of_ble_eq_true rfl) rfl (m_commandHere hr hs (fun v1 e1 b1 => ?_))
  refine go_istore_n (y := mX11_readsCommand) (pc := 4) dX11_readsCommand_4 rfl (by decide) ?_
  refine go_aload_n (y := mX11_readsCommand) (pc := 5) dX11_readsCommand_5 rfl rfl ?_
  refine go_iload_n (y := mX11_readsCommand) (pc := 6) dX11_readsCommand_6 rfl rfl ?_
  refine go_iconst (y := mX11_readsCommand) (pc := 7) dX11_readsCommand_7 ?_
  refine go_icmp_eq (y := mX11_readsCommand) (pc := 8) (tgt := 15) dX11_readsCommand_8 (by decide) (by omega) (by omega) (fun h8 => ?_) (fun h8 => ?_)
  · skip
    refine go_iconst (y := mX11_readsCommand) (pc := 15) dX11_readsCommand_15 ?_
    exact Jw v1 0 e1 b1 (bI_f (by omega)).symm
  · skip
    refine go_iconst (y := mX11_readsCommand) (pc := 11) dX11_readsCommand_11 ?_
    refine go_goto (y := mX11_readsCommand) (pc := 12) (tgt := 16) dX11_readsCommand_12 (by decide) ?_
    exact Jw v1 1 e1 b1 (bI_t (by omega)).symm
set_option maxRecDepth 8000 in
set_option maxHeartbeats 4000000 in
theorem m_readsCommands0 (hr : rom f L s σ) (h22 : s.2.1 = 0 → σ 0 22 = τ 4 5) (hI : okI f L τ) (hrl : rel S t ν) (hS : wfS S) (hN : ∀ m : Nat, (m : Int) < S 0 7 → isn 6 (S 1 m)) (hT : nmT S τ) {Q : Option Value → Mem → Prop} {X : String → Mem → Prop} (K : ∀ σ', rom f L (fxS f (bk0 f L (s, τ)).1) σ' → smF (τ 4 5).toNat σ' σ → ((fxS f (bk0 f L (s, τ)).1).2.1 = 0 → crs 0 (τ 4 5).toNat (bk0 f L (s, τ)).2 σ') → Q none (md σ' ν μ)) : mt 289 8 0 0 mX11_readsCommands [.ref 276, .int (iI 2)] Q X (md σ ν μ) := by
  show go 289 8 0 0 mX11_readsCommands Q X 0 [.ref 276, .int (iI 2)] [] _
  obtain ⟨c0, ec0⟩ : ∃ c0, c0 = (τ 4 5).toNat := ⟨_, rfl⟩
  rw [← ec0] at K
  have hc := hI.2.2
  have J31 : ∀ σ1 : Mem, Q none (md σ1 ν μ) → go 289 8 0 0 mX11_readsCommands Q X 31 [.ref 276, .int (iI 2)] [] (md σ1 ν μ) := by
    intro σ1 hQ
    refine go_return (y := mX11_readsCommands) (pc := 31) dX11_readsCommands_31 rfl ?_
    exact hQ
  have dead : ∀ (s1 : Sta) (σ1 : Mem), s1.2.1 ≠ 0 → rom f L s1 σ1 → Q none (md σ1 ν μ) → go 289 8 0 0 mX11_readsCommands Q X 0 [.ref 276, .int (iI 2)] [] (md σ1 ν μ) := by
    intro s1 σ1 hs1 h1 hQ
    refine go_aload_n (y := mX11_readsCommands) (pc := 0) dX11_readsCommands_0 rfl rfl ?_
    refine go_mget (y := mX11_readsCommands) (pc := 1) dX11_readsCommands_1 fl_X11_189 rfl rfl (by decide) (fun r1 => ?_)
    refine go_top (b := s1.2.1) (h1.2.2.2.2.1) (fun t1 => ?_)
    refine go_if_ne (y := mX11_readsCommands) (pc := 4) (tgt := 31) dX11_readsCommands_4 (by decide) (by omega) (fun h4 => ?_) (fun h4 => ?_)
    · skip
      exact J31 σ1 hQ
    · skip
      exact absurd h4 hs1
  have loop : ∀ (n : Nat) (x : Sta × Mem) (σ1 : Mem), okI f L x.2 → nmT S x.2 → rom f L x.1 σ1 → smF c0 σ1 σ → (c0 : Int) ≤ x.2 4 5 → (x.1.2.1 = 0 → 31 ≤ x.2 4 5 + n ∧ crs 0 c0 x.2 σ1) → blk f L (bkm f L) 2 n x = bk0 f L (s, τ) → go 289 8 0 0 mX11_readsCommands Q X 0 [.ref 276, .int (iI 2)] [] (md σ1 ν μ) := by
    intro n
    induction n with
    | zero =>
      intro x σ1 hI hT h1 hw hc0 hx he
      have hne : x.1.2.1 ≠ 0 := fun g => by have h9 := (hx g).1; have h8 := hI.2.2; omega
      rw [blk] at he
      refine dead x.1 σ1 hne h1 (K σ1 ?_ hw (fun g => ?_))
      · rw [← he]
        unfold fxS
        rw [mus_c hne]
        exact h1
      · rw [← he] at g ⊢
        exact absurd (fxS_0 g) hne
    | succ n ih =>
      intro x σ1 hI hT h1 hw hc0 hx he
      by_cases hne : x.1.2.1 = 0
      · skip
        have hB9 := hI.2.2
        rw [blk] at he
        obtain ⟨hx1, hx2⟩ := hx hne
        have tb := tkT_b (f := f) (b := x.1.1)
        have stop : (tkK f x.1.1 = 0 ∨ (tkK f x.1.1 = 3 ∧ f (x.1.1 : Nat) = 41)) → Q none (md σ1 ν μ) := by
          intro g
          rw [if_neg (fun w => by omega)] at he
          refine K σ1 ?_ hw (fun _ => ?_)
          · rw [← he]
            unfold fxS
            rw [mus_t (by omega)]
            exact h1
          · rw [← he]
            exact hx2
        refine go_aload_n (y := mX11_readsCommands) (pc := 0) dX11_readsCommands_0 rfl rfl ?_
        refine go_mget (y := mX11_readsCommands) (pc := 1) dX11_readsCommands_1 fl_X11_189 rfl rfl (by decide) (fun r1 => ?_)
        refine go_top (b := x.1.2.1) (h1.2.2.2.2.1) (fun t1 => ?_)
        refine go_if_ne (y := mX11_readsCommands) (pc := 4) (tgt := 31) dX11_readsCommands_4 (by decide) (by omega) (fun h4 => ?_) (fun h4 => ?_)
        · skip
          exact absurd hne h4
        · skip
          refine go_aload_n (y := mX11_readsCommands) (pc := 7) dX11_readsCommands_7 rfl rfl ?_
          refine go_mget (y := mX11_readsCommands) (pc := 8) dX11_readsCommands_8 fl_X11_183 rfl rfl (by decide) (fun r8 => ?_)
          refine go_top (b := tkT f x.1.1) (h1.2.2.1) (fun t8 => ?_)
          refine go_if_eq (y := mX11_readsCommands) (pc := 11) (tgt := 31) dX11_readsCommands_11 (by decide) (by omega) (fun h11 => ?_) (fun h11 => ?_)
          · skip
            exact J31 σ1 (stop (Or.inl (tkT_0.mp h11)))
          · skip
            refine go_aload_n (y := mX11_readsCommands) (pc := 14) dX11_readsCommands_14 rfl rfl ?_
            refine go_bipush (y := mX11_readsCommands) (pc := 15) dX11_readsCommands_15 (by decide) ?_
            refine go_callV1 (y := mX11_readsCommands) (pc := 17) (y' := mX11_isSign) (kc2 := 0) (ks2 := 0) dX11_readsCommands_17 ml_X11_202 ok_X11_isSign (show shp 276 = _ from rfl) ⟨_, _, rfl⟩ (by decide) rfl (by decide) (Nat.le_of_ble_eq_true rfl) rfl (m_isSign (by omega) h1 (fun v17 e17 b17 => ?_))
            refine go_if_ne (y := mX11_readsCommands) (pc := 20) (tgt := 31) dX11_readsCommands_20 (by decide) (by omega) (fun h20 => ?_) (fun h20 => ?_)
            · skip
              exact J31 σ1 (stop (Or.inr (bI_1 e17 h20).2))
            · skip
              have g17 := bI_0 e17 h20
              refine go_aload_n (y := mX11_readsCommands) (pc := 23) dX11_readsCommands_23 rfl rfl ?_
              refine go_iload_n (y := mX11_readsCommands) (pc := 24) dX11_readsCommands_24 rfl rfl ?_
              refine go_callV1 (y := mX11_readsCommands) (pc := 25) (y' := mX11_readsCommand) (kc2 := 0) (ks2 := 0) dX11_readsCommands_25 ml_X11_295 ok_X11_readsCommand (show shp 276 = _ from rfl) ⟨_, _, rfl⟩ (by decide) rfl (by decide) (Nat.le_of_ble_eq_true rfl) rfl (m_readsCommand0 (s := x.1) (τ := x.2) h1 hne hx2.1 hI hrl hS hN hT (fun hk σ25 e25 w25 => ?_) (fun hk σ25 e25 w25 y25 => ?_))
              · skip
                refine go_goto (y := mX11_readsCommands) (pc := 28) (tgt := 0) dX11_readsCommands_28 (by decide) ?_
                have ne9 : (mus x.1 False 1).2.1 ≠ 0 := fun w => (mus_0 (show (1 : Int) ≠ 0 by decide) w).2
                by_cases gw : tkK f x.1.1 = 1
                · rw [if_pos ⟨hne, gw⟩] at he
                  have ecs : (cms f L (bkm f L) 2 x).1 = mus x.1 False 1 := by
                    show gon f L (sgn f (cmd f L (bkm f L) 2 x).1 59) = _
                    rw [cmd_n hk]
                    show gon f L (sgn f (gon f L (mus x.1 ((1 : Int) = 0) 1)) 59) = _
                    rw [mus_e (q := False) (iff_of_false (by decide) (fun w => w)), gon_c ne9]
                    unfold sgn
                    rw [mus_c ne9, gon_c ne9]
                  have e2 : (cms f L (bkm f L) 2 x).2 = x.2 := by
                    show (cmd f L (bkm f L) 2 x).2 = x.2
                    rw [cmd_n hk]
                  refine ih (cms f L (bkm f L) 2 x) σ25 (by rw [e2]; exact hI) (by rw [e2]; exact hT) (by rw [ecs]; exact e25) (smF_t (smF_s w25) hw) (by rw [e2]; exact hc0) (fun g => ?_) he
                  rw [ecs] at g
                  exact absurd g ne9
                · rw [if_neg (fun w => gw w.2)] at he
                  have g0 : ¬ tkK f x.1.1 = 0 := fun w => h11 (tkT_0.mpr w)
                  refine dead _ σ25 ne9 e25 (K σ25 ?_ (smF_t (smF_s w25) hw) (fun g => ?_))
                  · rw [← he]
                    unfold fxS
                    rw [mus_e (q := False) (iff_of_false (fun w => by rcases w with w | w | w; exact g0 w; exact gw w; exact g17 ⟨hne, w⟩) (fun w => w))]
                    exact e25
                  · rw [← he] at g
                    have g9 := (mus_0 (show (1 : Int) ≠ 0 by decide) g).2
                    exfalso
                    rcases g9 with w | w | w
                    · exact g0 w
                    · exact gw w
                    · exact g17 ⟨hne, w⟩
              · skip
                refine go_goto (y := mX11_readsCommands) (pc := 28) (tgt := 0) dX11_readsCommands_28 (by decide) ?_
                have gw : tkK f x.1.1 = 1 := by
                  by_cases q : tkK f x.1.1 = 1
                  · exact q
                  · exact absurd (kwV_1 q) hk
                rw [if_pos ⟨hne, gw⟩] at he
                have hf := fr_cms (d := 2) fr_m x hI
                obtain ⟨q1, q2, n1, q3⟩ := hx2
                have xn : (((x.2 4 5).toNat : Nat) : Int) = x.2 4 5 := by omega
                refine ih (cms f L (bkm f L) 2 x) σ25 (pv_cms pv_m x hI) (nmT_f (fr_cms fr_m) hI hT) e25 (smF_t (smF_l w25 (by omega)) hw) (by have := hf.1; omega) (fun g => ?_) he
                obtain ⟨p1, p2, n2, p3⟩ := y25 g
                have p3' : wfb (cms f L (bkm f L) 2 x).2 0 n2 (x.2 4 5).toNat ((cms f L (bkm f L) 2 x).2 4 5).toNat := p3
                have inc : x.2 4 5 + 1 ≤ (cms f L (bkm f L) 2 x).2 4 5 := by
                  have h9 := cms_0 g
                  have hl := h9.2.2
                  show x.2 4 5 + 1 ≤ (cmd f L (bkm f L) 2 x).2 4 5
                  rw [cmd_y h9.2.1 hl]
                  dsimp only
                  rw [wr_na (by decide)]
                  exact (cm3_fr (d := 2) fr_m hI hl).1
                refine ⟨by omega, p1, fun k hk1 hk2 => ?_, n1 + n2, ?_⟩
                · by_cases hlt : (k : Int) < x.2 4 5
                  · exact crel_f (q2 k hk1 hlt) (fun a h5 h9 => hf.2.1 a k h5 h9 hlt) (fun a h8 h11 => w25 a k (by omega) (by omega))
                  · exact p2 k (by show (x.2 4 5).toNat ≤ k; omega) hk2
                · refine wfb_a (wfb_f (fun k h1 h2 => ⟨hf.2.1 5 k (by decide) (by decide) (by omega), hf.2.1 9 k (by decide) (by decide) (by omega)⟩) q3) (by omega) (by omega) p3'
      · have he' : x = bk0 f L (s, τ) := by
          rw [blk, if_neg (fun w => hne w.1)] at he
          exact he
        refine dead x.1 σ1 hne h1 (K σ1 ?_ hw (fun g => ?_))
        · rw [← he']
          unfold fxS
          rw [mus_c hne]
          exact h1
        · rw [← he'] at g
          exact absurd (fxS_0 g) hne
  exact loop 31 (s, τ) σ hI hT hr (smF_r _ _) (by show (c0 : Int) ≤ τ 4 5; omega) (fun g => ⟨by show 31 ≤ τ 4 5 + (31 : Nat); omega, h22 g, fun k h1 h2 => absurd (show (k : Int) < τ 4 5 from h2) (by omega), 0, by show (τ 4 5).toNat ≤ c0; omega⟩) rfl
set_option maxRecDepth 8000 in
set_option maxHeartbeats 4000000 in
theorem m_readsRepeat1 {i : Nat} (hi : i < 30) (hr : rom f L s σ) (h22 : s.2.1 = 0 → σ 0 22 = τ 4 5) (h4 : τ 4 5 = i + 1) (hI : okI f L τ) (hrl : rel S t ν) (hS : wfS S) (hN : ∀ m : Nat, (m : Int) < S 0 7 → isn 6 (S 1 m)) (hT : nmT S τ) {Q : Option Value → Mem → Prop} {X : String → Mem → Prop} (K : ∀ σ', rom f L (brS f L (bk0 f L) 1 (opr f L 8 i s τ)).1 σ' → smR i σ' σ → ((brS f L (bk0 f L) 1 (opr f L 8 i s τ)).1.2.1 = 0 → σ' 10 i = (brS f L (bk0 f L) 1 (opr f L 8 i s τ)).2 8 i ∧ (0 ≤ (brS f L (bk0 f L) 1 (opr f L 8 i s τ)).2 8 i ∧ (brS f L (bk0 f L) 1 (opr f L 8 i s τ)).2 8 i ≤ 20) ∧ σ' 11 i = (brS f L (bk0 f L) 1 (opr f L 8 i s τ)).2 4 5 ∧ crs 0 (i + 1) (brS f L (bk0 f L) 1 (opr f L 8 i s τ)).2 σ') → Q none (md σ' ν μ)) : mt 289 9 0 0 mX11_readsRepeat [.ref 276, .int (iI (i : Nat)), .int (iI 1)] Q X (md σ ν μ) := by
  show go 289 9 0 0 mX11_readsRepeat Q X 0 [.ref 276, .int (iI (i : Nat)), .int (iI 1)] [] _
  obtain ⟨x1, ex1⟩ : ∃ x1, x1 = num3 f L s 0 20 := ⟨_, rfl⟩
  obtain ⟨x2, ex2⟩ : ∃ x2, x2 = wr τ 8 i (tkn3 f L s 0 20) := ⟨_, rfl⟩
  have ex : opr f L 8 i s τ = (x1, x2) := by rw [ex1, ex2]; rfl
  obtain ⟨Y, eY⟩ : ∃ Y, Y = (bk0 f L) (gon f L (sgn f x1 40), x2) := ⟨_, rfl⟩
  have eb : brS f L (bk0 f L) 1 (opr f L 8 i s τ) = (gon f L (sgn f Y.1 41), Y.2) := by
    unfold brS
    rw [if_neg (by decide), ex, ← eY]
  rw [eb] at K
  dsimp only at K
  have hIx : okI f L x2 := by rw [ex2]; exact okI_wr hI (by decide)
  have hTx : nmT S x2 := by rw [ex2]; exact ⟨by rw [wr_na (by decide)]; exact hT.1, fun m => by rw [wr_na (by decide)]; exact hT.2 m⟩
  have x45 : x2 4 5 = i + 1 := by rw [ex2, wr_na (by decide)]; exact h4
  have xn : (x2 4 5).toNat = i + 1 := by omega
  have x8 : x2 8 i = tkn3 f L s 0 20 := by rw [ex2, wr_s]
  have hYI : okI f L Y.2 := by rw [eY]; exact pv_0 _ hIx
  have hYf := fr_0 (gon f L (sgn f x1 40), x2) hIx
  rw [← eY] at hYf
  have y8 : Y.2 8 i = tkn3 f L s 0 20 := by rw [hYf.2.1 8 i (by decide) (by decide) (show (i : Int) < x2 4 5 by omega)]; exact x8
  have y45 := hYI.2.2
  have J43 : ∀ σ1 : Mem, rom f L (sgn f x1 40) σ1 → smR i σ1 σ → ((sgn f x1 40).2.1 = 0 → σ1 0 22 = τ 4 5 ∧ σ1 10 i = tkn3 f L s 0 20) → go 289 9 0 0 mX11_readsRepeat Q X 43 [.ref 276, .int (iI (i : Nat)), .int (iI 1)] [] (md σ1 ν μ) := by
    intro σ1 h1 hw hv
    refine go_aload_n (y := mX11_readsRepeat) (pc := 43) dX11_readsRepeat_43 rfl rfl ?_
    refine go_callV0 (y := mX11_readsRepeat) (pc := 44) (y' := mX11_goesOn) (kc2 := 0) (ks2 := 0) dX11_readsRepeat_44 ml_X11_208 ok_X11_goesOn (show shp 276 = _ from rfl) ⟨_, _, rfl⟩ (by decide) trivial (by decide) (Nat.le_of_ble_eq_true rfl) rfl (m_goesOn h1 (fun σ44 e44 w44 => ?_))
    refine go_aload_n (y := mX11_readsRepeat) (pc := 47) dX11_readsRepeat_47 rfl rfl ?_
    refine go_iload_n (y := mX11_readsRepeat) (pc := 48) dX11_readsRepeat_48 rfl rfl ?_
    refine go_iconst (y := mX11_readsRepeat) (pc := 49) dX11_readsRepeat_49 ?_
    refine go_iadd (y := mX11_readsRepeat) (pc := 50) dX11_readsRepeat_50 ?_
    refine go_callV1 (y := mX11_readsRepeat) (pc := 51) (y' := mX11_readsCommands) (kc2 := 0) (ks2 := 0) dX11_readsRepeat_51 ml_X11_258 ok_X11_readsCommands (show shp 276 = _ from rfl) ⟨_, _, rfl⟩ (by decide) rfl (by decide) (Nat.le_of_ble_eq_true rfl) rfl (m_readsCommands0 (τ := x2) e44 (fun g => by rw [w44 0 22 (by omega), (hv (gon_0 g)).1, x45, h4]) hIx hrl hS hN hTx (fun σ51 e51 w51 y51 => ?_))
    rw [show (bk0 f L) (gon f L (sgn f x1 40), x2) = Y from eY.symm] at e51 y51; rw [xn] at w51 y51
    refine go_aload_n (y := mX11_readsRepeat) (pc := 54) dX11_readsRepeat_54 rfl rfl ?_
    refine go_bipush (y := mX11_readsRepeat) (pc := 55) dX11_readsRepeat_55 (by decide) ?_
    refine go_callV1 (y := mX11_readsRepeat) (pc := 57) (y' := mX11_takesSign) (kc2 := 0) (ks2 := 0) dX11_readsRepeat_57 ml_X11_225 ok_X11_takesSign (show shp 276 = _ from rfl) ⟨_, _, rfl⟩ (by decide) rfl (by decide) (Nat.le_of_ble_eq_true rfl) rfl (m_takesSign (by omega) e51 (fun σ57 e57 w57 => ?_))
    rw [show mus (fxS f Y.1) (tkK f (fxS f Y.1).1 = 3 ∧ f ((fxS f Y.1).1 : Nat) = 41) 1 = sgn f Y.1 41 from sgn_fx] at e57
    refine go_aload_n (y := mX11_readsRepeat) (pc := 60) dX11_readsRepeat_60 rfl rfl ?_
    refine go_mref (y := mX11_readsRepeat) (pc := 61) dX11_readsRepeat_61 fl_X11_45 rfl rfl (by decide) ?_
    refine go_iload_n (y := mX11_readsRepeat) (pc := 64) dX11_readsRepeat_64 rfl rfl ?_
    refine go_aload_n (y := mX11_readsRepeat) (pc := 65) dX11_readsRepeat_65 rfl rfl ?_
    refine go_mget (y := mX11_readsRepeat) (pc := 66) dX11_readsRepeat_66 fl_X11_261 rfl rfl (by decide) (fun r66 => ?_)
    refine go_mias (y := mX11_readsRepeat) (pc := 69) (r := 11) (k := i) dX11_readsRepeat_69 (by decide) (by decide) rfl (by decide) rfl (by omega) (by decide) (by assumption) ?_
    refine go_return (y := mX11_readsRepeat) (pc := 70) dX11_readsRepeat_70 rfl ?_
    refine K _ (rom_w e57 (Or.inl (by decide))) (smR_t (smR_w (by decide)) (smR_t (smR_s w57) (smR_t (smR_F w51) (smR_t (smR_s w44) hw)))) (fun g => ?_)
    have g9 := gm_0 (show (1 : Int) ≠ 0 by decide) g
    have gy := g9.1
    have gb : (gon f L (sgn f x1 40)).2.1 = 0 := by
      by_cases q : (gon f L (sgn f x1 40)).2.1 = 0
      · exact q
      · exfalso
        have q1 : Y = (gon f L (sgn f x1 40), x2) := by
          rw [eY]
          exact if_neg (fun w => q w.1)
        rw [q1] at gy
        exact q gy
    have gs := gon_0 gb
    have gn := (mus_0 (show (1 : Int) ≠ 0 by decide) gs).1
    have gf : (fxS f Y.1).2.1 = 0 := by
      unfold fxS
      rw [mus_t (Or.inr (Or.inr g9.2))]
      exact gy
    obtain ⟨c1, c2, n9, c3⟩ := y51 gf
    obtain ⟨v1, v2⟩ := hv gs
    have e22 : σ57 0 22 = Y.2 4 5 := (w57 0 22 (by omega)).trans c1
    have nb : 0 ≤ tkn3 f L s 0 20 ∧ tkn3 f L s 0 20 ≤ 20 := by
      rw [ex1] at gn
      rw [tkn3_0 gn]
      exact (num3_0 gn).2.2
    refine ⟨?_, by rw [y8]; exact nb, by rw [wr_s]; exact e22, ⟨by rw [wr_na (by decide)]; exact e22, fun k hk1 hk2 => ?_, n9, c3⟩⟩
    · rw [wr_na (by decide), w57 10 i (Or.inl (by decide)), w51 10 i (Or.inl (by decide)) (by omega), w44 10 i (Or.inl (by decide)), v2, y8]
    · refine crel_f (c2 k hk1 hk2) (fun _ _ _ => rfl) (fun a h8 h11 => ?_)
      rw [wr_n (by omega)]
      exact w57 a k (by omega)
  have hv9 : ∀ (σ21 σ9 : Mem) (v9 : Int), smo σ9 σ → smo σ21 (wr σ9 10 i (wp v9)) → ((num3 f L s 0 20).2.1 = 0 → v9 = nmv f L s.1) → ((sgn f x1 40).2.1 = 0 → σ21 0 22 = τ 4 5 ∧ σ21 10 i = tkn3 f L s 0 20) := by
    intro σ21 σ9 v9 w9 w21 hx g
    have gn := (mus_0 (show (1 : Int) ≠ 0 by decide) g).1
    rw [ex1] at gn
    refine ⟨?_, ?_⟩
    · rw [w21 0 22 (by omega), wr_na (by decide), w9 0 22 (by omega)]
      exact h22 (num3_0 gn).1
    · rw [w21 10 i (Or.inl (by decide)), wr_s]
      exact num_v (by decide) gn hx
  refine go_aload_n (y := mX11_readsRepeat) (pc := 0) dX11_readsRepeat_0 rfl rfl ?_
  refine go_mref (y := mX11_readsRepeat) (pc := 1) dX11_readsRepeat_1 fl_X11_42 rfl rfl (by decide) ?_
  refine go_iload_n (y := mX11_readsRepeat) (pc := 4) dX11_readsRepeat_4 rfl rfl ?_
  refine go_aload_n (y := mX11_readsRepeat) (pc := 5) dX11_readsRepeat_5 rfl rfl ?_
  refine go_iconst (y := mX11_readsRepeat) (pc := 6) dX11_readsRepeat_6 ?_
  refine go_bipush (y := mX11_readsRepeat) (pc := 7) dX11_readsRepeat_7 (by decide) ?_
  refine go_callV2 (y := mX11_readsRepeat) (pc := 9) (y' := mX11_number) (kc2 := 0) (ks2 := 0) dX11_readsRepeat_9 ml_X11_222 ok_X11_number (show shp 276 = _ from rfl) ⟨_, _, rfl⟩ (by decide) ⟨rfl, rfl⟩ (by decide) (Nat.le_of_ble_eq_true rfl) rfl (m_number (by omega) (by omega) hr (fun σ9 v9 e9 w9 x9 => ?_))
  refine go_miasW (y := mX11_readsRepeat) (pc := 12) (r := 10) (k := i) dX11_readsRepeat_12 (by decide) (by decide) rfl (by decide) rfl (by omega) (by decide)  ?_
  refine go_aload_n (y := mX11_readsRepeat) (pc := 13) dX11_readsRepeat_13 rfl rfl ?_
  refine go_aload_n (y := mX11_readsRepeat) (pc := 14) dX11_readsRepeat_14 rfl rfl ?_
  refine go_bipush (y := mX11_readsRepeat) (pc := 15) dX11_readsRepeat_15 (by decide) ?_
  refine go_callV1 (y := mX11_readsRepeat) (pc := 17) (y' := mX11_isSign) (kc2 := 0) (ks2 := 0) dX11_readsRepeat_17 ml_X11_202 ok_X11_isSign (show shp 276 = _ from rfl) ⟨_, _, rfl⟩ (by decide) rfl (by decide) (Nat.le_of_ble_eq_true rfl) rfl (m_isSign (by omega) (rom_w e9 (Or.inl (by decide))) (fun v17 e17 b17 => ?_))
  refine go_iconst (y := mX11_readsRepeat) (pc := 20) dX11_readsRepeat_20 ?_
  refine go_callV2 (y := mX11_readsRepeat) (pc := 21) (y' := mX11_must) (kc2 := 0) (ks2 := 0) dX11_readsRepeat_21 ml_X11_205 ok_X11_must (show shp 276 = _ from rfl) ⟨_, _, rfl⟩ (by decide) ⟨rfl, rfl⟩ (by decide) (Nat.le_of_ble_eq_true rfl) rfl (m_must e17 (by decide) (rom_w e9 (Or.inl (by decide))) (fun σ21 v21 e21 w21 b21 c21 => ?_))
  rw [mus_a, ← ex1] at e21; rw [← ex1] at b21
  refine go_if_eq (y := mX11_readsRepeat) (pc := 24) (tgt := 43) dX11_readsRepeat_24 (by decide) (by omega) (fun h24 => ?_) (fun h24 => ?_)
  · skip
    exact J43 σ21 e21 (smR_t (smR_s w21) (smR_t (smR_w (by decide)) (smR_s w9))) (hv9 σ21 σ9 v9 w9 w21 x9)
  · skip
    refine go_aload_n (y := mX11_readsRepeat) (pc := 27) dX11_readsRepeat_27 rfl rfl ?_
    refine go_iload_n (y := mX11_readsRepeat) (pc := 28) dX11_readsRepeat_28 rfl rfl ?_
    refine go_iconst (y := mX11_readsRepeat) (pc := 29) dX11_readsRepeat_29 ?_
    refine go_icmp_ge (y := mX11_readsRepeat) (pc := 30) (tgt := 37) dX11_readsRepeat_30 (by decide) (by omega) (by omega) (fun h30 => ?_) (fun h30 => ?_)
    · skip
      exact absurd h30 (by decide)
    · skip
      refine go_iconst (y := mX11_readsRepeat) (pc := 33) dX11_readsRepeat_33 ?_
      refine go_goto (y := mX11_readsRepeat) (pc := 34) (tgt := 38) dX11_readsRepeat_34 (by decide) ?_
      refine go_iconst (y := mX11_readsRepeat) (pc := 38) dX11_readsRepeat_38 ?_
      refine go_callV2 (y := mX11_readsRepeat) (pc := 39) (y' := mX11_must) (kc2 := 0) (ks2 := 0) dX11_readsRepeat_39 ml_X11_205 ok_X11_must (show shp 276 = _ from rfl) ⟨_, _, rfl⟩ (by decide) ⟨rfl, rfl⟩ (by decide) (Nat.le_of_ble_eq_true rfl) rfl (m_must (p := True) (by rfl) (by decide) e21 (fun σ39 v39 e39 w39 b39 c39 => ?_))
      rw [mus_t (p := True) trivial] at e39
      refine go_pop (y := mX11_readsRepeat) (pc := 42) dX11_readsRepeat_42 rfl ?_
      refine J43 σ39 e39 (smR_t (smR_s w39) (smR_t (smR_s w21) (smR_t (smR_w (by decide)) (smR_s w9)))) (fun g => ?_)
      have h9 := hv9 σ21 σ9 v9 w9 w21 x9 g
      exact ⟨(w39 0 22 (by omega)).trans h9.1, (w39 10 i (Or.inl (by decide))).trans h9.2⟩
set_option maxRecDepth 8000 in
set_option maxHeartbeats 4000000 in
theorem m_readsCommand1 (hr : rom f L s σ) (hs : s.2.1 = 0) (h22 : σ 0 22 = τ 4 5) (hI : okI f L τ) (hrl : rel S t ν) (hS : wfS S) (hN : ∀ m : Nat, (m : Int) < S 0 7 → isn 6 (S 1 m)) (hT : nmT S τ) {Q : Option Value → Mem → Prop} {X : String → Mem → Prop} (K : kwV f L s = -1 → ∀ σ', rom f L (mus s False 1) σ' → smo σ' σ → Q none (md σ' ν μ)) (K2 : kwV f L s ≠ -1 → ∀ σ', rom f L (cms f L (bk0 f L) 1 (s, τ)).1 σ' → smF (τ 4 5).toNat σ' σ → ((cms f L (bk0 f L) 1 (s, τ)).1.2.1 = 0 → crs 1 (τ 4 5).toNat (cms f L (bk0 f L) 1 (s, τ)).2 σ') → Q none (md σ' ν μ)) : mt 289 10 0 0 mX11_readsCommand [.ref 276, .int (iI 1)] Q X (md σ ν μ) := by
  show go 289 10 0 0 mX11_readsCommand Q X 0 [.ref 276, .int (iI 1), .null, .null] [] _
  have hc := hI.2.2
  have sL := hr.2.2.2.2.2.2.2
  have tb := tkE_b (b := s.1) sL hr.1.2.2.2
  have J45 : ∀ (v : Int) (σ1 : Mem), Q none (md σ1 ν μ) → go 289 10 0 0 mX11_readsCommand Q X 45 [.ref 276, .int (iI 1), .int (iI v), .null] [] (md σ1 ν μ) := by
    intro v σ1 hQ
    refine go_return (y := mX11_readsCommand) (pc := 45) dX11_readsCommand_45 rfl ?_
    exact hQ
  have Jw : ∀ v c : Int, v = kwV f L s → -1 ≤ v ∧ v ≤ 8 → c = bI (kwV f L s ≠ -1) → go 289 10 0 0 mX11_readsCommand Q X 16 [.ref 276, .int (iI 1), .int (iI v), .null] [.int (iI c), .ref 276] (md σ ν μ) := by
    intro v c ev bv hc9
    refine go_iconst (y := mX11_readsCommand) (pc := 16) dX11_readsCommand_16 ?_
    refine go_callV2 (y := mX11_readsCommand) (pc := 17) (y' := mX11_must) (kc2 := 0) (ks2 := 0) dX11_readsCommand_17 ml_X11_205 ok_X11_must (show shp 276 = _ from rfl) ⟨_, _, rfl⟩ (by decide) ⟨rfl, rfl⟩ (by decide) (Nat.le_of_ble_eq_true rfl) rfl (m_must hc9 (by decide) hr (fun σ17 v17 e17 w17 b17 c17 => ?_))
    refine go_if_eq (y := mX11_readsCommand) (pc := 20) (tgt := 45) dX11_readsCommand_20 (by decide) (by omega) (fun h20 => ?_) (fun h20 => ?_)
    · skip
      have g := bI_0 b17 h20
      have gk : kwV f L s = -1 := by
        by_cases q : kwV f L s = -1
        · exact q
        · rw [mus_t q] at g
          exact absurd hs g
      refine J45 v σ17 (K gk σ17 ?_ w17)
      rw [mus_e (q := False) (iff_of_false (fun w => w gk) (fun w => w))] at e17
      exact e17
    · skip
      have g := bI_1 b17 h20
      have gk : kwV f L s ≠ -1 := (mus_0 (show (1 : Int) ≠ 0 by decide) g).2
      rw [mus_t gk] at e17
      have q22 : σ17 0 22 = τ 4 5 := (w17 0 22 (by omega)).trans h22
      have J38 : ∀ c : Int, c = bI (τ 4 5 < 30) → go 289 10 0 0 mX11_readsCommand Q X 38 [.ref 276, .int (iI 1), .int (iI v), .null] [.int (iI c), .ref 276] (md σ17 ν μ) := by
        intro c hc8
        refine go_iconst (y := mX11_readsCommand) (pc := 38) dX11_readsCommand_38 ?_
        refine go_callV2 (y := mX11_readsCommand) (pc := 39) (y' := mX11_must) (kc2 := 0) (ks2 := 0) dX11_readsCommand_39 ml_X11_205 ok_X11_must (show shp 276 = _ from rfl) ⟨_, _, rfl⟩ (by decide) ⟨rfl, rfl⟩ (by decide) (Nat.le_of_ble_eq_true rfl) rfl (m_must hc8 (by decide) e17 (fun σ39 v39 e39 w39 b39 c39 => ?_))
        refine go_if_ne (y := mX11_readsCommand) (pc := 42) (tgt := 46) dX11_readsCommand_42 (by decide) (by omega) (fun h42 => ?_) (fun h42 => ?_)
        · skip
          have g1 := bI_1 b39 h42
          have gl : τ 4 5 < 30 := (mus_0 (show (4 : Int) ≠ 0 by decide) g1).2
          rw [mus_t gl] at e39
          obtain ⟨n, en⟩ : ∃ n : Nat, τ 4 5 = n := ⟨(τ 4 5).toNat, by omega⟩
          have en' : (τ 4 5).toNat = n := by omega
          have r22 : σ39 0 22 = n := ((w39 0 22 (by omega)).trans q22).trans en
          have hI1 : okI f L (cm1 (kwV f L s) τ) := okI_cm1 hI gl
          have hT1 : nmT S (cm1 (kwV f L s) τ) := nmT_1 hT
          have h4R : cm1 (kwV f L s) τ 4 5 = n + 1 := by rw [cm1_4, en]
          have hg : gon f L s = (nxt f L s.1, 0, s.2.2) := if_pos hs
          have K2' := K2 gk
          rw [en'] at K2'
          have ec : cmd f L (bk0 f L) 1 (s, τ) = ((cm3 f L (bk0 f L) 1 (s, τ)).1, wr (cm3 f L (bk0 f L) 1 (s, τ)).2 9 n ((cm3 f L (bk0 f L) 1 (s, τ)).2 4 5)) := by
            rw [cmd_y (x := (s, τ)) gk gl]
            show _ = _
            rw [show ((s, τ) : Sta × Mem).2 4 5 = τ 4 5 from rfl, en']
          have ecs : cms f L (bk0 f L) 1 (s, τ) = (gon f L (sgn f (cm3 f L (bk0 f L) 1 (s, τ)).1 59), wr (cm3 f L (bk0 f L) 1 (s, τ)).2 9 n ((cm3 f L (bk0 f L) 1 (s, τ)).2 4 5)) := by
            unfold cms
            rw [ec]
          rw [ecs] at K2'
          dsimp only at K2'
          have e2 : cm2 f L (s, τ) = opr f L (kwV f L s) n (gon f L s) (cm1 (kwV f L s) τ) := by
            unfold cm2
            show opr f L (kwV f L s) (τ 4 5).toNat _ _ = _
            rw [en']
          have h3f := cm3_fr (d := 1) fr_0 (x := (s, τ)) hI gl
          have h3I : okI f L (cm3 f L (bk0 f L) 1 (s, τ)).2 := pv_cm3 pv_0 (x := (s, τ)) hI gl
          have c5n : (cm3 f L (bk0 f L) 1 (s, τ)).2 5 n = kwV f L s := by
            rw [h3f.2.1 5 n (by decide) (by decide) (show (n : Int) < τ 4 5 + 1 by omega), ← en']
            exact cm2_5 (x := (s, τ))
          obtain ⟨σ3, eσ3⟩ : ∃ σ3, σ3 = wr (wr σ39 8 n v) 0 22 (n + 1) := ⟨_, rfl⟩
          have hr3 : rom f L s σ3 := by rw [eσ3]; exact rom_w (rom_w e39 (Or.inl (by decide))) (Or.inr ⟨rfl, rfl⟩)
          have hB3 := hr3.1
          have h3s := hr3.2.2.2.1
          have hR := (rom_rd hB3 (hr3.2.2.2.2.1.trans hs) hr3.2.2.2.2.2.1 tb.2)
          have wR := hR.2
          have hR := hR.1
          have hR : rom f L (gon f L s) (rdM σ3 f L (tkB f L (tkE f L s.1))) := by rw [hg]; exact hR
          have f3 : smF n σ3 σ := by
            rw [eσ3]
            exact smF_t (smF_w (Or.inr ⟨rfl, rfl⟩)) (smF_t (smF_w (by omega)) (smF_t (smF_s w39) (smF_s w17)))
          have k3 : σ3 8 n = kwV f L s := by rw [eσ3, wr_na (by decide), wr_s, ev]
          have z3 : σ3 0 22 = n + 1 := by rw [eσ3, wr_s]
          have h22R : rdM σ3 f L (tkB f L (tkE f L s.1)) 0 22 = cm1 (kwV f L s) τ 4 5 := by rw [wR 0 22 (by omega), z3, h4R]
          have kR : rdM σ3 f L (tkB f L (tkE f L s.1)) 8 n = kwV f L s := (wR 8 n (Or.inl (by decide))).trans k3
          refine go_aload_n (y := mX11_readsCommand) (pc := 46) dX11_readsCommand_46 rfl rfl ?_
          refine go_mget (y := mX11_readsCommand) (pc := 47) dX11_readsCommand_47 fl_X11_261 rfl rfl (by decide) (fun r47 => ?_)
          refine go_top (b := ((n : Nat) : Int)) (r22) (fun t47 => ?_)
          refine go_istore_n (y := mX11_readsCommand) (pc := 50) dX11_readsCommand_50 rfl (by decide) ?_
          refine go_aload_n (y := mX11_readsCommand) (pc := 51) dX11_readsCommand_51 rfl rfl ?_
          refine go_mref (y := mX11_readsCommand) (pc := 52) dX11_readsCommand_52 fl_X11_36 rfl rfl (by decide) ?_
          refine go_iload_n (y := mX11_readsCommand) (pc := 55) dX11_readsCommand_55 rfl rfl ?_
          refine go_iload_n (y := mX11_readsCommand) (pc := 56) dX11_readsCommand_56 rfl rfl ?_
          refine go_mias (y := mX11_readsCommand) (pc := 57) (r := 8) (k := n) dX11_readsCommand_57 (by decide) (by decide) rfl (by decide) rfl (by omega) (by decide) (by omega) ?_
          refine go_aload_n (y := mX11_readsCommand) (pc := 58) dX11_readsCommand_58 rfl rfl ?_
          refine go_dup (y := mX11_readsCommand) (pc := 59) dX11_readsCommand_59 rfl ?_
          refine go_mget (y := mX11_readsCommand) (pc := 60) dX11_readsCommand_60 fl_X11_261 rfl rfl (by decide) (fun r60 => ?_)
          refine go_top (b := ((n : Nat) : Int)) ((by rw [wr_na (by decide)]; exact r22)) (fun t60 => ?_)
          refine go_iconst (y := mX11_readsCommand) (pc := 63) dX11_readsCommand_63 ?_
          skip
          refine go_iadd (y := mX11_readsCommand) (pc := 64) dX11_readsCommand_64 ?_
          refine go_mput (y := mX11_readsCommand) (pc := 65) dX11_readsCommand_65 fp_X11_261 rfl rfl (by decide) (by omega) ?_
          refine go_mem (show _ = md σ3 ν μ from congrArg (fun t => md t ν μ) eσ3.symm) ?_
          refine go_aload_n (y := mX11_readsCommand) (pc := 68) dX11_readsCommand_68 rfl rfl ?_
          refine go_callV0 (y := mX11_readsCommand) (pc := 69) (y' := mX11_reads) (kc2 := 0) (ks2 := 0) dX11_readsCommand_69 ml_X11_195 ok_X11_reads (show shp 276 = _ from rfl) ⟨_, _, rfl⟩ (by decide) trivial (by decide) (Nat.le_of_ble_eq_true rfl) rfl (m_reads (f := f) (L := L) (e := tkE f L s.1) hB3 h3s tb.2 ?_)
          refine go_mem (show _ = md (rdM σ3 f L (tkB f L (tkE f L s.1))) ν μ from rfl) ?_
          refine go_iload_n (y := mX11_readsCommand) (pc := 72) dX11_readsCommand_72 rfl rfl ?_
          refine go_bipush (y := mX11_readsCommand) (pc := 73) dX11_readsCommand_73 (by decide) ?_
          refine go_icmp_ne (y := mX11_readsCommand) (pc := 75) (tgt := 87) dX11_readsCommand_75 (by decide) (by omega) (by omega) (fun h75 => ?_) (fun h75 => ?_)
          · skip
            have em : cm3 f L (bk0 f L) 1 (s, τ) = opr f L (kwV f L s) n (gon f L s) (cm1 (kwV f L s) τ) := by
              unfold cm3
              rw [if_neg (show ¬ kwV f L (s, τ).1 = 8 by show ¬ kwV f L s = 8; omega)]
              exact e2
            refine go_aload_n (y := mX11_readsCommand) (pc := 87) dX11_readsCommand_87 rfl rfl ?_
            refine go_iload_n (y := mX11_readsCommand) (pc := 88) dX11_readsCommand_88 rfl rfl ?_
            refine go_callV1 (y := mX11_readsCommand) (pc := 89) (y' := mX11_readsSingle) (kc2 := 0) (ks2 := 0) dX11_readsCommand_89 ml_X11_292 ok_X11_readsSingle (show shp 276 = _ from rfl) ⟨_, _, rfl⟩ (by decide) rfl (by decide) (Nat.le_of_ble_eq_true rfl) rfl (m_readsSingle (τ := cm1 (kwV f L s) τ) (s := gon f L s) (k := kwV f L s) (by omega) kR (by omega) hR hrl hS hN hT1 (fun σ89 e89 w89 y89 => ?_))
            refine go_aload_n (y := mX11_readsCommand) (pc := 92) dX11_readsCommand_92 rfl rfl ?_
            refine go_bipush (y := mX11_readsCommand) (pc := 93) dX11_readsCommand_93 (by decide) ?_
            refine go_callV1 (y := mX11_readsCommand) (pc := 95) (y' := mX11_takesSign) (kc2 := 0) (ks2 := 0) dX11_readsCommand_95 ml_X11_225 ok_X11_takesSign (show shp 276 = _ from rfl) ⟨_, _, rfl⟩ (by decide) rfl (by decide) (Nat.le_of_ble_eq_true rfl) rfl (m_takesSign (by omega) e89 (fun σ95 e95 w95 => ?_))
            refine go_return (y := mX11_readsCommand) (pc := 98) dX11_readsCommand_98 rfl ?_
            rw [em] at K2' c5n
            have o4 : (opr f L (kwV f L s) n (gon f L s) (cm1 (kwV f L s) τ)).2 4 5 = n + 1 := by rw [opr_o (by omega), h4R]
            refine K2' _ e95 (smF_t (smF_s w95) (smF_t (fun r j w w2 => w89 r j (by omega) (by omega)) (smF_t (smF_s wR) f3))) (fun g => ?_)
            have g9 := (gm_0 (show (1 : Int) ≠ 0 by decide) g).1
            have hv := y89 g9
            have t45 : (wr (opr f L (kwV f L s) n (gon f L s) (cm1 (kwV f L s) τ)).2 9 n ((opr f L (kwV f L s) n (gon f L s) (cm1 (kwV f L s) τ)).2 4 5)) 4 5 = n + 1 := by rw [wr_na (by decide), o4]
            have t5 : (wr (opr f L (kwV f L s) n (gon f L s) (cm1 (kwV f L s) τ)).2 9 n ((opr f L (kwV f L s) n (gon f L s) (cm1 (kwV f L s) τ)).2 4 5)) 5 n = kwV f L s := by rw [wr_na (by decide), c5n]
            refine ⟨?_, fun k hk1 hk2 => ?_, 1, ?_⟩
            · rw [t45, w95 0 22 (by omega), w89 0 22 (by omega) (by omega), h22R, h4R]
            · rw [t45] at hk2
              have ek : k = n := by omega
              subst ek
              unfold crel
              rw [t5]
              have a8 : σ95 8 k = kwV f L s := (w95 8 k (Or.inl (by decide))).trans ((w89 8 k (Or.inl (by decide)) (by omega)).trans kR)
              refine ⟨a8, by omega, fun w => ?_, fun w => ?_, fun w => ?_, fun w => absurd w (by omega)⟩
              · rw [w95 9 k (Or.inl (by decide)), wr_na (by decide)]
                exact hv.1 w
              · rw [w95 10 k (Or.inl (by decide)), wr_na (by decide)]
                exact hv.2.1 w
              · rw [w95 11 k (Or.inl (by decide)), wr_na (by decide)]
                exact hv.2.2 w
            · refine Or.inr ⟨by rw [t45]; omega, Or.inl ⟨by rw [t5]; omega, by rw [wr_s, o4]; omega, ?_⟩⟩
              show Int.toNat _ ≤ n + 1
              rw [t45]
              omega
          · skip
            skip
            have em : cm3 f L (bk0 f L) 1 (s, τ) = brS f L (bk0 f L) 1 (opr f L 8 n (gon f L s) (cm1 (kwV f L s) τ)) := by
              unfold cm3
              rw [if_pos (show kwV f L (s, τ).1 = 8 by show kwV f L s = 8; omega), e2, show kwV f L s = 8 by omega]
            refine go_aload_n (y := mX11_readsCommand) (pc := 78) dX11_readsCommand_78 rfl rfl ?_
            refine go_iload_n (y := mX11_readsCommand) (pc := 79) dX11_readsCommand_79 rfl rfl ?_
            refine go_iload_n (y := mX11_readsCommand) (pc := 80) dX11_readsCommand_80 rfl rfl ?_
            refine go_callV2 (y := mX11_readsCommand) (pc := 81) (y' := mX11_readsRepeat) (kc2 := 0) (ks2 := 0) dX11_readsCommand_81 ml_X11_288 ok_X11_readsRepeat (show shp 276 = _ from rfl) ⟨_, _, rfl⟩ (by decide) ⟨rfl, rfl⟩ (by decide) (Nat.le_of_ble_eq_true rfl) rfl (m_readsRepeat1 (s := gon f L s) (τ := cm1 (kwV f L s) τ) (by omega) hR (fun _ => h22R) h4R hI1 hrl hS hN hT1 (fun σ81 e81 w81 y81 => ?_))
            rw [← em] at e81 y81
            refine go_goto (y := mX11_readsCommand) (pc := 84) (tgt := 92) dX11_readsCommand_84 (by decide) ?_
            refine go_aload_n (y := mX11_readsCommand) (pc := 92) dX11_readsCommand_92 rfl rfl ?_
            refine go_bipush (y := mX11_readsCommand) (pc := 93) dX11_readsCommand_93 (by decide) ?_
            refine go_callV1 (y := mX11_readsCommand) (pc := 95) (y' := mX11_takesSign) (kc2 := 0) (ks2 := 0) dX11_readsCommand_95 ml_X11_225 ok_X11_takesSign (show shp 276 = _ from rfl) ⟨_, _, rfl⟩ (by decide) rfl (by decide) (Nat.le_of_ble_eq_true rfl) rfl (m_takesSign (by omega) e81 (fun σ95 e95 w95 => ?_))
            refine go_return (y := mX11_readsCommand) (pc := 98) dX11_readsCommand_98 rfl ?_
            obtain ⟨Z, eZ⟩ : ∃ Z, Z = (cm3 f L (bk0 f L) 1 (s, τ)).2 := ⟨_, rfl⟩
            rw [← eZ] at K2' y81 c5n h3f h3I
            have hz4 := h3I.2.2
            have hz1 := h3f.1
            refine K2' _ e95 (smF_t (smF_s w95) (smF_t (fun r j w w2 => w81 r j w (by omega)) (smF_t (smF_s wR) f3))) (fun g => ?_)
            obtain ⟨y1, y2, y3, y4, y5, n9, y6⟩ := y81 (gm_0 (show (1 : Int) ≠ 0 by decide) g).1
            have t45 : wr Z 9 n (Z 4 5) 4 5 = Z 4 5 := wr_na (by decide)
            have t5 : wr Z 9 n (Z 4 5) 5 n = 8 := by rw [wr_na (by decide), c5n]; omega
            have z1 : (n : Int) + 1 ≤ Z 4 5 := by have h9 : τ 4 5 + 1 ≤ Z 4 5 := hz1; omega
            refine ⟨?_, fun k hk1 hk2 => ?_, n9 + 1, ?_⟩
            · rw [t45, w95 0 22 (by omega)]
              exact y4
            · rw [t45] at hk2
              by_cases ek : k = n
              · subst ek
                unfold crel
                rw [t5]
                have a8 : σ95 8 k = 8 := (w95 8 k (Or.inl (by decide))).trans ((w81 8 k (Or.inl (by decide)) (Or.inr (Or.inr (Or.inr ⟨rfl, rfl⟩)))).trans (kR.trans (by omega)))
                refine ⟨a8, by decide, fun w => absurd w (by decide), fun _ => ?_, fun w => absurd w (by decide), fun _ => ⟨?_, ?_⟩⟩
                · rw [w95 10 k (Or.inl (by decide)), wr_na (by decide)]
                  exact y1
                · rw [w95 11 k (Or.inl (by decide)), wr_s]
                  exact y3
                · rw [wr_na (by decide)]
                  exact y2
              · refine crel_f (y5 k (by omega) hk2) (fun a h5 h9 => wr_n (by omega)) (fun a h8 h11 => w95 a k (by omega))
            · refine Or.inr ⟨by rw [t45]; omega, Or.inr ⟨t5, by decide, (Z 4 5).toNat, by omega, by rw [t45]; omega, by rw [wr_s]; omega, ?_, ?_⟩⟩
              · exact wfb_f (fun k h1 h2 => ⟨wr_na (by decide), wr_ni (by omega)⟩) y6
              · exact wfb_0 (by rw [t45]; omega) _
        · skip
          have g1 := bI_0 b39 h42
          have gl : ¬ τ 4 5 < 30 := fun q => by rw [mus_t q] at g1; exact g1 hs
          refine J45 v σ39 (K2 gk σ39 ?_ (smF_t (smF_s w39) (smF_s w17)) (fun w => absurd (cms_0 w).2.2 gl))
          have e1 : (cmd f L (bk0 f L) 1 (s, τ)).1 = mus s False 4 := by
            rw [cmd_t (x := (s, τ)) gk (show 30 ≤ τ 4 5 by omega)]
            show gon f L (mus s ((4 : Int) = 0) 4) = mus s False 4
            rw [mus_e (q := False) (iff_of_false (by decide) (fun w => w)), mus_f hs (fun w => w)]
            exact gon_c (show (4 : Int) ≠ 0 by decide)
          have e3 : (cms f L (bk0 f L) 1 (s, τ)).1 = mus s False 4 := by
            show gon f L (sgn f (cmd f L (bk0 f L) 1 (s, τ)).1 59) = _
            rw [e1]
            unfold sgn
            rw [mus_f hs (fun w => w)]
            rw [mus_c (s := (s.1, 4, (s.1 : Int))) (show (4 : Int) ≠ 0 by decide)]
            exact gon_c (show (4 : Int) ≠ 0 by decide)
          rw [e3]
          rw [mus_e (q := False) (iff_of_false gl (fun w => w))] at e39
          exact e39
      refine go_aload_n (y := mX11_readsCommand) (pc := 23) dX11_readsCommand_23 rfl rfl ?_
      refine go_aload_n (y := mX11_readsCommand) (pc := 24) dX11_readsCommand_24 rfl rfl ?_
      refine go_mget (y := mX11_readsCommand) (pc := 25) dX11_readsCommand_25 fl_X11_261 rfl rfl (by decide) (fun r25 => ?_)
      refine go_top (b := τ 4 5) (q22) (fun t25 => ?_)
      refine go_bipush (y := mX11_readsCommand) (pc := 28) dX11_readsCommand_28 (by decide) ?_
      refine go_icmp_ge (y := mX11_readsCommand) (pc := 30) (tgt := 37) dX11_readsCommand_30 (by decide) (by omega) (by omega) (fun h30 => ?_) (fun h30 => ?_)
      · skip
        refine go_iconst (y := mX11_readsCommand) (pc := 37) dX11_readsCommand_37 ?_
        exact J38 0 (bI_f (by omega)).symm
      · skip
        refine go_iconst (y := mX11_readsCommand) (pc := 33) dX11_readsCommand_33 ?_
        refine go_goto (y := mX11_readsCommand) (pc := 34) (tgt := 38) dX11_readsCommand_34 (by decide) ?_
        exact J38 1 (bI_t (by omega)).symm
  refine go_aload_n (y := mX11_readsCommand) (pc := 0) dX11_readsCommand_0 rfl rfl ?_
  refine go_callV0 (y := mX11_readsCommand) (pc := 1) (y' := mX11_commandHere) (kc2 := 0) (ks2 := 0) dX11_readsCommand_1 ml_X11_285 ok_X11_commandHere (show shp 276 = _ from rfl) ⟨_, _, rfl⟩ (by decide) trivial (by decide) (Nat.le_of_ble_eq_true rfl) rfl (m_commandHere hr hs (fun v1 e1 b1 => ?_))
  refine go_istore_n (y := mX11_readsCommand) (pc := 4) dX11_readsCommand_4 rfl (by decide) ?_
  refine go_aload_n (y := mX11_readsCommand) (pc := 5) dX11_readsCommand_5 rfl rfl ?_
  refine go_iload_n (y := mX11_readsCommand) (pc := 6) dX11_readsCommand_6 rfl rfl ?_
  refine go_iconst (y := mX11_readsCommand) (pc := 7) dX11_readsCommand_7 ?_
  refine go_icmp_eq (y := mX11_readsCommand) (pc := 8) (tgt := 15) dX11_readsCommand_8 (by decide) (by omega) (by omega) (fun h8 => ?_) (fun h8 => ?_)
  · skip
    refine go_iconst (y := mX11_readsCommand) (pc := 15) dX11_readsCommand_15 ?_
    exact Jw v1 0 e1 b1 (bI_f (by omega)).symm
  · skip
    refine go_iconst (y := mX11_readsCommand) (pc := 11) dX11_readsCommand_11 ?_
    refine go_goto (y := mX11_readsCommand) (pc := 12) (tgt := 16) dX11_readsCommand_12 (by decide) ?_
    exact Jw v1 1 e1 b1 (bI_t (by omega)).symm
set_option maxRecDepth 8000 in
set_option maxHeartbeats 4000000 in
theorem m_readsCommands1 (hr : rom f L s σ) (h22 : s.2.1 = 0 → σ 0 22 = τ 4 5) (hI : okI f L τ) (hrl : rel S t ν) (hS : wfS S) (hN : ∀ m : Nat, (m : Int) < S 0 7 → isn 6 (S 1 m)) (hT : nmT S τ) {Q : Option Value → Mem → Prop} {X : String → Mem → Prop} (K : ∀ σ', rom f L (fxS f (bk1 f L (s, τ)).1) σ' → smF (τ 4 5).toNat σ' σ → ((fxS f (bk1 f L (s, τ)).1).2.1 = 0 → crs 1 (τ 4 5).toNat (bk1 f L (s, τ)).2 σ') → Q none (md σ' ν μ)) : mt 289 11 0 0 mX11_readsCommands [.ref 276, .int (iI 1)] Q X (md σ ν μ) := by
  show go 289 11 0 0 mX11_readsCommands Q X 0 [.ref 276, .int (iI 1)] [] _
  obtain ⟨c0, ec0⟩ : ∃ c0, c0 = (τ 4 5).toNat := ⟨_, rfl⟩
  rw [← ec0] at K
  have hc := hI.2.2
  have J31 : ∀ σ1 : Mem, Q none (md σ1 ν μ) → go 289 11 0 0 mX11_readsCommands Q X 31 [.ref 276, .int (iI 1)] [] (md σ1 ν μ) := by
    intro σ1 hQ
    refine go_return (y := mX11_readsCommands) (pc := 31) dX11_readsCommands_31 rfl ?_
    exact hQ
  have dead : ∀ (s1 : Sta) (σ1 : Mem), s1.2.1 ≠ 0 → rom f L s1 σ1 → Q none (md σ1 ν μ) → go 289 11 0 0 mX11_readsCommands Q X 0 [.ref 276, .int (iI 1)] [] (md σ1 ν μ) := by
    intro s1 σ1 hs1 h1 hQ
    refine go_aload_n (y := mX11_readsCommands) (pc := 0) dX11_readsCommands_0 rfl rfl ?_
    refine go_mget (y := mX11_readsCommands) (pc := 1) dX11_readsCommands_1 fl_X11_189 rfl rfl (by decide) (fun r1 => ?_)
    refine go_top (b := s1.2.1) (h1.2.2.2.2.1) (fun t1 => ?_)
    refine go_if_ne (y := mX11_readsCommands) (pc := 4) (tgt := 31) dX11_readsCommands_4 (by decide) (by omega) (fun h4 => ?_) (fun h4 => ?_)
    · skip
      exact J31 σ1 hQ
    · skip
      exact absurd h4 hs1
  have loop : ∀ (n : Nat) (x : Sta × Mem) (σ1 : Mem), okI f L x.2 → nmT S x.2 → rom f L x.1 σ1 → smF c0 σ1 σ → (c0 : Int) ≤ x.2 4 5 → (x.1.2.1 = 0 → 31 ≤ x.2 4 5 + n ∧ crs 1 c0 x.2 σ1) → blk f L (bk0 f L) 1 n x = bk1 f L (s, τ) → go 289 11 0 0 mX11_readsCommands Q X 0 [.ref 276, .int (iI 1)] [] (md σ1 ν μ) := by
    intro n
    induction n with
    | zero =>
      intro x σ1 hI hT h1 hw hc0 hx he
      have hne : x.1.2.1 ≠ 0 := fun g => by have h9 := (hx g).1; have h8 := hI.2.2; omega
      rw [blk] at he
      refine dead x.1 σ1 hne h1 (K σ1 ?_ hw (fun g => ?_))
      · rw [← he]
        unfold fxS
        rw [mus_c hne]
        exact h1
      · rw [← he] at g ⊢
        exact absurd (fxS_0 g) hne
    | succ n ih =>
      intro x σ1 hI hT h1 hw hc0 hx he
      by_cases hne : x.1.2.1 = 0
      · skip
        have hB9 := hI.2.2
        rw [blk] at he
        obtain ⟨hx1, hx2⟩ := hx hne
        have tb := tkT_b (f := f) (b := x.1.1)
        have stop : (tkK f x.1.1 = 0 ∨ (tkK f x.1.1 = 3 ∧ f (x.1.1 : Nat) = 41)) → Q none (md σ1 ν μ) := by
          intro g
          rw [if_neg (fun w => by omega)] at he
          refine K σ1 ?_ hw (fun _ => ?_)
          · rw [← he]
            unfold fxS
            rw [mus_t (by omega)]
            exact h1
          · rw [← he]
            exact hx2
        refine go_aload_n (y := mX11_readsCommands) (pc := 0) dX11_readsCommands_0 rfl rfl ?_
        refine go_mget (y := mX11_readsCommands) (pc := 1) dX11_readsCommands_1 fl_X11_189 rfl rfl (by decide) (fun r1 => ?_)
        refine go_top (b := x.1.2.1) (h1.2.2.2.2.1) (fun t1 => ?_)
        refine go_if_ne (y := mX11_readsCommands) (pc := 4) (tgt := 31) dX11_readsCommands_4 (by decide) (by omega) (fun h4 => ?_) (fun h4 => ?_)
        · skip
          exact absurd hne h4
        · skip
          refine go_aload_n (y := mX11_readsCommands) (pc := 7) dX11_readsCommands_7 rfl rfl ?_
          refine go_mget (y := mX11_readsCommands) (pc := 8) dX11_readsCommands_8 fl_X11_183 rfl rfl (by decide) (fun r8 => ?_)
          refine go_top (b := tkT f x.1.1) (h1.2.2.1) (fun t8 => ?_)
          refine go_if_eq (y := mX11_readsCommands) (pc := 11) (tgt := 31) dX11_readsCommands_11 (by decide) (by omega) (fun h11 => ?_) (fun h11 => ?_)
          · skip
            exact J31 σ1 (stop (Or.inl (tkT_0.mp h11)))
          · skip
            refine go_aload_n (y := mX11_readsCommands) (pc := 14) dX11_readsCommands_14 rfl rfl ?_
            refine go_bipush (y := mX11_readsCommands) (pc := 15) dX11_readsCommands_15 (by decide) ?_
            refine go_callV1 (y := mX11_readsCommands) (pc := 17) (y' := mX11_isSign) (kc2 := 0) (ks2 := 0) dX11_readsCommands_17 ml_X11_202 ok_X11_isSign (show shp 276 = _ from rfl) ⟨_, _, rfl⟩ (by decide) rfl (by decide) (Nat.le_of_ble_eq_true rfl) rfl (m_isSign (by omega) h1 (fun v17 e17 b17 => ?_))
            refine go_if_ne (y := mX11_readsCommands) (pc := 20) (tgt := 31) dX11_readsCommands_20 (by decide) (by omega) (fun h20 => ?_) (fun h20 => ?_)
            · skip
              exact J31 σ1 (stop (Or.inr (bI_1 e17 h20).2))
            · skip
              have g17 := bI_0 e17 h20
              refine go_aload_n (y := mX11_readsCommands) (pc := 23) dX11_readsCommands_23 rfl rfl ?_
              refine go_iload_n (y := mX11_readsCommands) (pc := 24) dX11_readsCommands_24 rfl rfl ?_
              refine go_callV1 (y := mX11_readsCommands) (pc := 25) (y' := mX11_readsCommand) (kc2 := 0) (ks2 := 0) dX11_readsCommands_25 ml_X11_295 ok_X11_readsCommand (show shp 276 = _ from rfl) ⟨_, _, rfl⟩ (by decide) rfl (by decide) (Nat.le_of_ble_eq_true rfl) rfl (m_readsCommand1 (s := x.1) (τ := x.2) h1 hne hx2.1 hI hrl hS hN hT (fun hk σ25 e25 w25 => ?_) (fun hk σ25 e25 w25 y25 => ?_))
              · skip
                refine go_goto (y := mX11_readsCommands) (pc := 28) (tgt := 0) dX11_readsCommands_28 (by decide) ?_
                have ne9 : (mus x.1 False 1).2.1 ≠ 0 := fun w => (mus_0 (show (1 : Int) ≠ 0 by decide) w).2
                by_cases gw : tkK f x.1.1 = 1
                · rw [if_pos ⟨hne, gw⟩] at he
                  have ecs : (cms f L (bk0 f L) 1 x).1 = mus x.1 False 1 := by
                    show gon f L (sgn f (cmd f L (bk0 f L) 1 x).1 59) = _
                    rw [cmd_n hk]
                    show gon f L (sgn f (gon f L (mus x.1 ((1 : Int) = 0) 1)) 59) = _
                    rw [mus_e (q := False) (iff_of_false (by decide) (fun w => w)), gon_c ne9]
                    unfold sgn
                    rw [mus_c ne9, gon_c ne9]
                  have e2 : (cms f L (bk0 f L) 1 x).2 = x.2 := by
                    show (cmd f L (bk0 f L) 1 x).2 = x.2
                    rw [cmd_n hk]
                  refine ih (cms f L (bk0 f L) 1 x) σ25 (by rw [e2]; exact hI) (by rw [e2]; exact hT) (by rw [ecs]; exact e25) (smF_t (smF_s w25) hw) (by rw [e2]; exact hc0) (fun g => ?_) he
                  rw [ecs] at g
                  exact absurd g ne9
                · rw [if_neg (fun w => gw w.2)] at he
                  have g0 : ¬ tkK f x.1.1 = 0 := fun w => h11 (tkT_0.mpr w)
                  refine dead _ σ25 ne9 e25 (K σ25 ?_ (smF_t (smF_s w25) hw) (fun g => ?_))
                  · rw [← he]
                    unfold fxS
                    rw [mus_e (q := False) (iff_of_false (fun w => by rcases w with w | w | w; exact g0 w; exact gw w; exact g17 ⟨hne, w⟩) (fun w => w))]
                    exact e25
                  · rw [← he] at g
                    have g9 := (mus_0 (show (1 : Int) ≠ 0 by decide) g).2
                    exfalso
                    rcases g9 with w | w | w
                    · exact g0 w
                    · exact gw w
                    · exact g17 ⟨hne, w⟩
              · skip
                refine go_goto (y := mX11_readsCommands) (pc := 28) (tgt := 0) dX11_readsCommands_28 (by decide) ?_
                have gw : tkK f x.1.1 = 1 := by
                  by_cases q : tkK f x.1.1 = 1
                  · exact q
                  · exact absurd (kwV_1 q) hk
                rw [if_pos ⟨hne, gw⟩] at he
                have hf := fr_cms (d := 1) fr_0 x hI
                obtain ⟨q1, q2, n1, q3⟩ := hx2
                have xn : (((x.2 4 5).toNat : Nat) : Int) = x.2 4 5 := by omega
                refine ih (cms f L (bk0 f L) 1 x) σ25 (pv_cms pv_0 x hI) (nmT_f (fr_cms fr_0) hI hT) e25 (smF_t (smF_l w25 (by omega)) hw) (by have := hf.1; omega) (fun g => ?_) he
                obtain ⟨p1, p2, n2, p3⟩ := y25 g
                have p3' : wfb (cms f L (bk0 f L) 1 x).2 1 n2 (x.2 4 5).toNat ((cms f L (bk0 f L) 1 x).2 4 5).toNat := p3
                have inc : x.2 4 5 + 1 ≤ (cms f L (bk0 f L) 1 x).2 4 5 := by
                  have h9 := cms_0 g
                  have hl := h9.2.2
                  show x.2 4 5 + 1 ≤ (cmd f L (bk0 f L) 1 x).2 4 5
                  rw [cmd_y h9.2.1 hl]
                  dsimp only
                  rw [wr_na (by decide)]
                  exact (cm3_fr (d := 1) fr_0 hI hl).1
                refine ⟨by omega, p1, fun k hk1 hk2 => ?_, n1 + n2, ?_⟩
                · by_cases hlt : (k : Int) < x.2 4 5
                  · exact crel_f (q2 k hk1 hlt) (fun a h5 h9 => hf.2.1 a k h5 h9 hlt) (fun a h8 h11 => w25 a k (by omega) (by omega))
                  · exact p2 k (by show (x.2 4 5).toNat ≤ k; omega) hk2
                · refine wfb_a (wfb_f (fun k h1 h2 => ⟨hf.2.1 5 k (by decide) (by decide) (by omega), hf.2.1 9 k (by decide) (by decide) (by omega)⟩) q3) (by omega) (by omega) p3'
      · have he' : x = bk1 f L (s, τ) := by
          rw [blk, if_neg (fun w => hne w.1)] at he
          exact he
        refine dead x.1 σ1 hne h1 (K σ1 ?_ hw (fun g => ?_))
        · rw [← he']
          unfold fxS
          rw [mus_c hne]
          exact h1
        · rw [← he'] at g
          exact absurd (fxS_0 g) hne
  exact loop 31 (s, τ) σ hI hT hr (smF_r _ _) (by show (c0 : Int) ≤ τ 4 5; omega) (fun g => ⟨by show 31 ≤ τ 4 5 + (31 : Nat); omega, h22 g, fun k h1 h2 => absurd (show (k : Int) < τ 4 5 from h2) (by omega), 0, by show (τ 4 5).toNat ≤ c0; omega⟩) rfl
set_option maxRecDepth 8000 in
set_option maxHeartbeats 4000000 in
theorem m_readsRepeat2 {i : Nat} (hi : i < 30) (hr : rom f L s σ) (h22 : s.2.1 = 0 → σ 0 22 = τ 4 5) (h4 : τ 4 5 = i + 1) (hI : okI f L τ) (hrl : rel S t ν) (hS : wfS S) (hN : ∀ m : Nat, (m : Int) < S 0 7 → isn 6 (S 1 m)) (hT : nmT S τ) {Q : Option Value → Mem → Prop} {X : String → Mem → Prop} (K : ∀ σ', rom f L (brS f L (bk1 f L) 0 (opr f L 8 i s τ)).1 σ' → smR i σ' σ → ((brS f L (bk1 f L) 0 (opr f L 8 i s τ)).1.2.1 = 0 → σ' 10 i = (brS f L (bk1 f L) 0 (opr f L 8 i s τ)).2 8 i ∧ (0 ≤ (brS f L (bk1 f L) 0 (opr f L 8 i s τ)).2 8 i ∧ (brS f L (bk1 f L) 0 (opr f L 8 i s τ)).2 8 i ≤ 20) ∧ σ' 11 i = (brS f L (bk1 f L) 0 (opr f L 8 i s τ)).2 4 5 ∧ crs 1 (i + 1) (brS f L (bk1 f L) 0 (opr f L 8 i s τ)).2 σ') → Q none (md σ' ν μ)) : mt 289 12 0 0 mX11_readsRepeat [.ref 276, .int (iI (i : Nat)), .int (iI 0)] Q X (md σ ν μ) := by
  show go 289 12 0 0 mX11_readsRepeat Q X 0 [.ref 276, .int (iI (i : Nat)), .int (iI 0)] [] _
  obtain ⟨x1, ex1⟩ : ∃ x1, x1 = num3 f L s 0 20 := ⟨_, rfl⟩
  obtain ⟨x2, ex2⟩ : ∃ x2, x2 = wr τ 8 i (tkn3 f L s 0 20) := ⟨_, rfl⟩
  have ex : opr f L 8 i s τ = (x1, x2) := by rw [ex1, ex2]; rfl
  obtain ⟨Y, eY⟩ : ∃ Y, Y = (bk1 f L) (gon f L (sgn f x1 40), x2) := ⟨_, rfl⟩
  have eb : brS f L (bk1 f L) 0 (opr f L 8 i s τ) = (gon f L (sgn f Y.1 41), Y.2) := by
    unfold brS
    rw [if_neg (by decide), ex, ← eY]
  rw [eb] at K
  dsimp only at K
  have hIx : okI f L x2 := by rw [ex2]; exact okI_wr hI (by decide)
  have hTx : nmT S x2 := by rw [ex2]; exact ⟨by rw [wr_na (by decide)]; exact hT.1, fun m => by rw [wr_na (by decide)]; exact hT.2 m⟩
  have x45 : x2 4 5 = i + 1 := by rw [ex2, wr_na (by decide)]; exact h4
  have xn : (x2 4 5).toNat = i + 1 := by omega
  have x8 : x2 8 i = tkn3 f L s 0 20 := by rw [ex2, wr_s]
  have hYI : okI f L Y.2 := by rw [eY]; exact pv_1 _ hIx
  have hYf := fr_1 (gon f L (sgn f x1 40), x2) hIx
  rw [← eY] at hYf
  have y8 : Y.2 8 i = tkn3 f L s 0 20 := by rw [hYf.2.1 8 i (by decide) (by decide) (show (i : Int) < x2 4 5 by omega)]; exact x8
  have y45 := hYI.2.2
  have J43 : ∀ σ1 : Mem, rom f L (sgn f x1 40) σ1 → smR i σ1 σ → ((sgn f x1 40).2.1 = 0 → σ1 0 22 = τ 4 5 ∧ σ1 10 i = tkn3 f L s 0 20) → go 289 12 0 0 mX11_readsRepeat Q X 43 [.ref 276, .int (iI (i : Nat)), .int (iI 0)] [] (md σ1 ν μ) := by
    intro σ1 h1 hw hv
    refine go_aload_n (y := mX11_readsRepeat) (pc := 43) dX11_readsRepeat_43 rfl rfl ?_
    refine go_callV0 (y := mX11_readsRepeat) (pc := 44) (y' := mX11_goesOn) (kc2 := 0) (ks2 := 0) dX11_readsRepeat_44 ml_X11_208 ok_X11_goesOn (show shp 276 = _ from rfl) ⟨_, _, rfl⟩ (by decide) trivial (by decide) (Nat.le_of_ble_eq_true rfl) rfl (m_goesOn h1 (fun σ44 e44 w44 => ?_))
    refine go_aload_n (y := mX11_readsRepeat) (pc := 47) dX11_readsRepeat_47 rfl rfl ?_
    refine go_iload_n (y := mX11_readsRepeat) (pc := 48) dX11_readsRepeat_48 rfl rfl ?_
    refine go_iconst (y := mX11_readsRepeat) (pc := 49) dX11_readsRepeat_49 ?_
    refine go_iadd (y := mX11_readsRepeat) (pc := 50) dX11_readsRepeat_50 ?_
    refine go_callV1 (y := mX11_readsRepeat) (pc := 51) (y' := mX11_readsCommands) (kc2 := 0) (ks2 := 0) dX11_readsRepeat_51 ml_X11_258 ok_X11_readsCommands (show shp 276 = _ from rfl) ⟨_, _, rfl⟩ (by decide) rfl (by decide) (Nat.le_of_ble_eq_true rfl) rfl (m_readsCommands1 (τ := x2) e44 (fun g => by rw [w44 0 22 (by omega), (hv (gon_0 g)).1, x45, h4]) hIx hrl hS hN hTx (fun σ51 e51 w51 y51 => ?_))
    rw [show (bk1 f L) (gon f L (sgn f x1 40), x2) = Y from eY.symm] at e51 y51; rw [xn] at w51 y51
    refine go_aload_n (y := mX11_readsRepeat) (pc := 54) dX11_readsRepeat_54 rfl rfl ?_
    refine go_bipush (y := mX11_readsRepeat) (pc := 55) dX11_readsRepeat_55 (by decide) ?_
    refine go_callV1 (y := mX11_readsRepeat) (pc := 57) (y' := mX11_takesSign) (kc2 := 0) (ks2 := 0) dX11_readsRepeat_57 ml_X11_225 ok_X11_takesSign (show shp 276 = _ from rfl) ⟨_, _, rfl⟩ (by decide) rfl (by decide) (Nat.le_of_ble_eq_true rfl) rfl (m_takesSign (by omega) e51 (fun σ57 e57 w57 => ?_))
    rw [show mus (fxS f Y.1) (tkK f (fxS f Y.1).1 = 3 ∧ f ((fxS f Y.1).1 : Nat) = 41) 1 = sgn f Y.1 41 from sgn_fx] at e57
    refine go_aload_n (y := mX11_readsRepeat) (pc := 60) dX11_readsRepeat_60 rfl rfl ?_
    refine go_mref (y := mX11_readsRepeat) (pc := 61) dX11_readsRepeat_61 fl_X11_45 rfl rfl (by decide) ?_
    refine go_iload_n (y := mX11_readsRepeat) (pc := 64) dX11_readsRepeat_64 rfl rfl ?_
    refine go_aload_n (y := mX11_readsRepeat) (pc := 65) dX11_readsRepeat_65 rfl rfl ?_
    refine go_mget (y := mX11_readsRepeat) (pc := 66) dX11_readsRepeat_66 fl_X11_261 rfl rfl (by decide) (fun r66 => ?_)
    refine go_mias (y := mX11_readsRepeat) (pc := 69) (r := 11) (k := i) dX11_readsRepeat_69 (by decide) (by decide) rfl (by decide) rfl (by omega) (by decide) (by assumption) ?_
    refine go_return (y := mX11_readsRepeat) (pc := 70) dX11_readsRepeat_70 rfl ?_
    refine K _ (rom_w e57 (Or.inl (by decide))) (smR_t (smR_w (by decide)) (smR_t (smR_s w57) (smR_t (smR_F w51) (smR_t (smR_s w44) hw)))) (fun g => ?_)
    have g9 := gm_0 (show (1 : Int) ≠ 0 by decide) g
    have gy := g9.1
    have gb : (gon f L (sgn f x1 40)).2.1 = 0 := by
      by_cases q : (gon f L (sgn f x1 40)).2.1 = 0
      · exact q
      · exfalso
        have q1 : Y = (gon f L (sgn f x1 40), x2) := by
          rw [eY]
          exact if_neg (fun w => q w.1)
        rw [q1] at gy
        exact q gy
    have gs := gon_0 gb
    have gn := (mus_0 (show (1 : Int) ≠ 0 by decide) gs).1
    have gf : (fxS f Y.1).2.1 = 0 := by
      unfold fxS
      rw [mus_t (Or.inr (Or.inr g9.2))]
      exact gy
    obtain ⟨c1, c2, n9, c3⟩ := y51 gf
    obtain ⟨v1, v2⟩ := hv gs
    have e22 : σ57 0 22 = Y.2 4 5 := (w57 0 22 (by omega)).trans c1
    have nb : 0 ≤ tkn3 f L s 0 20 ∧ tkn3 f L s 0 20 ≤ 20 := by
      rw [ex1] at gn
      rw [tkn3_0 gn]
      exact (num3_0 gn).2.2
    refine ⟨?_, by rw [y8]; exact nb, by rw [wr_s]; exact e22, ⟨by rw [wr_na (by decide)]; exact e22, fun k hk1 hk2 => ?_, n9, c3⟩⟩
    · rw [wr_na (by decide), w57 10 i (Or.inl (by decide)), w51 10 i (Or.inl (by decide)) (by omega), w44 10 i (Or.inl (by decide)), v2, y8]
    · refine crel_f (c2 k hk1 hk2) (fun _ _ _ => rfl) (fun a h8 h11 => ?_)
      rw [wr_n (by omega)]
      exact w57 a k (by omega)
  have hv9 : ∀ (σ21 σ9 : Mem) (v9 : Int), smo σ9 σ → smo σ21 (wr σ9 10 i (wp v9)) → ((num3 f L s 0 20).2.1 = 0 → v9 = nmv f L s.1) → ((sgn f x1 40).2.1 = 0 → σ21 0 22 = τ 4 5 ∧ σ21 10 i = tkn3 f L s 0 20) := by
    intro σ21 σ9 v9 w9 w21 hx g
    have gn := (mus_0 (show (1 : Int) ≠ 0 by decide) g).1
    rw [ex1] at gn
    refine ⟨?_, ?_⟩
    · rw [w21 0 22 (by omega), wr_na (by decide), w9 0 22 (by omega)]
      exact h22 (num3_0 gn).1
    · rw [w21 10 i (Or.inl (by decide)), wr_s]
      exact num_v (by decide) gn hx
  refine go_aload_n (y := mX11_readsRepeat) (pc := 0) dX11_readsRepeat_0 rfl rfl ?_
  refine go_mref (y := mX11_readsRepeat) (pc := 1) dX11_readsRepeat_1 fl_X11_42 rfl rfl (by decide) ?_
  refine go_iload_n (y := mX11_readsRepeat) (pc := 4) dX11_readsRepeat_4 rfl rfl ?_
  refine go_aload_n (y := mX11_readsRepeat) (pc := 5) dX11_readsRepeat_5 rfl rfl ?_
  refine go_iconst (y := mX11_readsRepeat) (pc := 6) dX11_readsRepeat_6 ?_
  refine go_bipush (y := mX11_readsRepeat) (pc := 7) dX11_readsRepeat_7 (by decide) ?_
  refine go_callV2 (y := mX11_readsRepeat) (pc := 9) (y' := mX11_number) (kc2 := 0) (ks2 := 0) dX11_readsRepeat_9 ml_X11_222 ok_X11_number (show shp 276 = _ from rfl) ⟨_, _, rfl⟩ (by decide) ⟨rfl, rfl⟩ (by decide) (Nat.le_of_ble_eq_true rfl) rfl (m_number (by omega) (by omega) hr (fun σ9 v9 e9 w9 x9 => ?_))
  refine go_miasW (y := mX11_readsRepeat) (pc := 12) (r := 10) (k := i) dX11_readsRepeat_12 (by decide) (by decide) rfl (by decide) rfl (by omega) (by decide)  ?_
  refine go_aload_n (y := mX11_readsRepeat) (pc := 13) dX11_readsRepeat_13 rfl rfl ?_
  refine go_aload_n (y := mX11_readsRepeat) (pc := 14) dX11_readsRepeat_14 rfl rfl ?_
  refine go_bipush (y := mX11_readsRepeat) (pc := 15) dX11_readsRepeat_15 (by decide) ?_
  refine go_callV1 (y := mX11_readsRepeat) (pc := 17) (y' := mX11_isSign) (kc2 := 0) (ks2 := 0) dX11_readsRepeat_17 ml_X11_202 ok_X11_isSign (show shp 276 = _ from rfl) ⟨_, _, rfl⟩ (by decide) rfl (by decide) (Nat.le_of_ble_eq_true rfl) rfl (m_isSign (by omega) (rom_w e9 (Or.inl (by decide))) (fun v17 e17 b17 => ?_))
  refine go_iconst (y := mX11_readsRepeat) (pc := 20) dX11_readsRepeat_20 ?_
  refine go_callV2 (y := mX11_readsRepeat) (pc := 21) (y' := mX11_must) (kc2 := 0) (ks2 := 0) dX11_readsRepeat_21 ml_X11_205 ok_X11_must (show shp 276 = _ from rfl) ⟨_, _, rfl⟩ (by decide) ⟨rfl, rfl⟩ (by decide) (Nat.le_of_ble_eq_true rfl) rfl (m_must e17 (by decide) (rom_w e9 (Or.inl (by decide))) (fun σ21 v21 e21 w21 b21 c21 => ?_))
  rw [mus_a, ← ex1] at e21; rw [← ex1] at b21
  refine go_if_eq (y := mX11_readsRepeat) (pc := 24) (tgt := 43) dX11_readsRepeat_24 (by decide) (by omega) (fun h24 => ?_) (fun h24 => ?_)
  · skip
    exact J43 σ21 e21 (smR_t (smR_s w21) (smR_t (smR_w (by decide)) (smR_s w9))) (hv9 σ21 σ9 v9 w9 w21 x9)
  · skip
    refine go_aload_n (y := mX11_readsRepeat) (pc := 27) dX11_readsRepeat_27 rfl rfl ?_
    refine go_iload_n (y := mX11_readsRepeat) (pc := 28) dX11_readsRepeat_28 rfl rfl ?_
    refine go_iconst (y := mX11_readsRepeat) (pc := 29) dX11_readsRepeat_29 ?_
    refine go_icmp_ge (y := mX11_readsRepeat) (pc := 30) (tgt := 37) dX11_readsRepeat_30 (by decide) (by omega) (by omega) (fun h30 => ?_) (fun h30 => ?_)
    · skip
      exact absurd h30 (by decide)
    · skip
      refine go_iconst (y := mX11_readsRepeat) (pc := 33) dX11_readsRepeat_33 ?_
      refine go_goto (y := mX11_readsRepeat) (pc := 34) (tgt := 38) dX11_readsRepeat_34 (by decide) ?_
      refine go_iconst (y := mX11_readsRepeat) (pc := 38) dX11_readsRepeat_38 ?_
      refine go_callV2 (y := mX11_readsRepeat) (pc := 39) (y' := mX11_must) (kc2 := 0) (ks2 := 0) dX11_readsRepeat_39 ml_X11_205 ok_X11_must (show shp 276 = _ from rfl) ⟨_, _, rfl⟩ (by decide) ⟨rfl, rfl⟩ (by decide) (Nat.le_of_ble_eq_true rfl) rfl (m_must (p := True) (by rfl) (by decide) e21 (fun σ39 v39 e39 w39 b39 c39 => ?_))
      rw [mus_t (p := True) trivial] at e39
      refine go_pop (y := mX11_readsRepeat) (pc := 42) dX11_readsRepeat_42 rfl ?_
      refine J43 σ39 e39 (smR_t (smR_s w39) (smR_t (smR_s w21) (smR_t (smR_w (by decide)) (smR_s w9)))) (fun g => ?_)
      have h9 := hv9 σ21 σ9 v9 w9 w21 x9 g
      exact ⟨(w39 0 22 (by omega)).trans h9.1, (w39 10 i (Or.inl (by decide))).trans h9.2⟩
set_option maxRecDepth 8000 in
set_option maxHeartbeats 4000000 in
theorem m_readsCommand2 (hr : rom f L s σ) (hs : s.2.1 = 0) (h22 : σ 0 22 = τ 4 5) (hI : okI f L τ) (hrl : rel S t ν) (hS : wfS S) (hN : ∀ m : Nat, (m : Int) < S 0 7 → isn 6 (S 1 m)) (hT : nmT S τ) {Q : Option Value → Mem → Prop} {X : String → Mem → Prop} (K : kwV f L s = -1 → ∀ σ', rom f L (mus s False 1) σ' → smo σ' σ → Q none (md σ' ν μ)) (K2 : kwV f L s ≠ -1 → ∀ σ', rom f L (cms f L (bk1 f L) 0 (s, τ)).1 σ' → smF (τ 4 5).toNat σ' σ → ((cms f L (bk1 f L) 0 (s, τ)).1.2.1 = 0 → crs 2 (τ 4 5).toNat (cms f L (bk1 f L) 0 (s, τ)).2 σ') → Q none (md σ' ν μ)) : mt 289 13 0 0 mX11_readsCommand [.ref 276, .int (iI 0)] Q X (md σ ν μ) := by
  show go 289 13 0 0 mX11_readsCommand Q X 0 [.ref 276, .int (iI 0), .null, .null] [] _
  have hc := hI.2.2
  have sL := hr.2.2.2.2.2.2.2
  have tb := tkE_b (b := s.1) sL hr.1.2.2.2
  have J45 : ∀ (v : Int) (σ1 : Mem), Q none (md σ1 ν μ) → go 289 13 0 0 mX11_readsCommand Q X 45 [.ref 276, .int (iI 0), .int (iI v), .null] [] (md σ1 ν μ) := by
    intro v σ1 hQ
    refine go_return (y := mX11_readsCommand) (pc := 45) dX11_readsCommand_45 rfl ?_
    exact hQ
  have Jw : ∀ v c : Int, v = kwV f L s → -1 ≤ v ∧ v ≤ 8 → c = bI (kwV f L s ≠ -1) → go 289 13 0 0 mX11_readsCommand Q X 16 [.ref 276, .int (iI 0), .int (iI v), .null] [.int (iI c), .ref 276] (md σ ν μ) := by
    intro v c ev bv hc9
    refine go_iconst (y := mX11_readsCommand) (pc := 16) dX11_readsCommand_16 ?_
    refine go_callV2 (y := mX11_readsCommand) (pc := 17) (y' := mX11_must) (kc2 := 0) (ks2 := 0) dX11_readsCommand_17 ml_X11_205 ok_X11_must (show shp 276 = _ from rfl) ⟨_, _, rfl⟩ (by decide) ⟨rfl, rfl⟩ (by decide) (Nat.le_of_ble_eq_true rfl) rfl (m_must hc9 (by decide) hr (fun σ17 v17 e17 w17 b17 c17 => ?_))
    refine go_if_eq (y := mX11_readsCommand) (pc := 20) (tgt := 45) dX11_readsCommand_20 (by decide) (by omega) (fun h20 => ?_) (fun h20 => ?_)
    · skip
      have g := bI_0 b17 h20
      have gk : kwV f L s = -1 := by
        by_cases q : kwV f L s = -1
        · exact q
        · rw [mus_t q] at g
          exact absurd hs g
      refine J45 v σ17 (K gk σ17 ?_ w17)
      rw [mus_e (q := False) (iff_of_false (fun w => w gk) (fun w => w))] at e17
      exact e17
    · skip
      have g := bI_1 b17 h20
      have gk : kwV f L s ≠ -1 := (mus_0 (show (1 : Int) ≠ 0 by decide) g).2
      rw [mus_t gk] at e17
      have q22 : σ17 0 22 = τ 4 5 := (w17 0 22 (by omega)).trans h22
      have J38 : ∀ c : Int, c = bI (τ 4 5 < 30) → go 289 13 0 0 mX11_readsCommand Q X 38 [.ref 276, .int (iI 0), .int (iI v), .null] [.int (iI c), .ref 276] (md σ17 ν μ) := by
        intro c hc8
        refine go_iconst (y := mX11_readsCommand) (pc := 38) dX11_readsCommand_38 ?_
        refine go_callV2 (y := mX11_readsCommand) (pc := 39) (y' := mX11_must) (kc2 := 0) (ks2 := 0) dX11_readsCommand_39 ml_X11_205 ok_X11_must (show shp 276 = _ from rfl) ⟨_, _, rfl⟩ (by decide) ⟨rfl, rfl⟩ (by decide) (Nat.le_of_ble_eq_true rfl) rfl (m_must hc8 (by decide) e17 (fun σ39 v39 e39 w39 b39 c39 => ?_))
        refine go_if_ne (y := mX11_readsCommand) (pc := 42) (tgt := 46) dX11_readsCommand_42 (by decide) (by omega) (fun h42 => ?_) (fun h42 => ?_)
        · skip
          have g1 := bI_1 b39 h42
          have gl : τ 4 5 < 30 := (mus_0 (show (4 : Int) ≠ 0 by decide) g1).2
          rw [mus_t gl] at e39
          obtain ⟨n, en⟩ : ∃ n : Nat, τ 4 5 = n := ⟨(τ 4 5).toNat, by omega⟩
          have en' : (τ 4 5).toNat = n := by omega
          have r22 : σ39 0 22 = n := ((w39 0 22 (by omega)).trans q22).trans en
          have hI1 : okI f L (cm1 (kwV f L s) τ) := okI_cm1 hI gl
          have hT1 : nmT S (cm1 (kwV f L s) τ) := nmT_1 hT
          have h4R : cm1 (kwV f L s) τ 4 5 = n + 1 := by rw [cm1_4, en]
          have hg : gon f L s = (nxt f L s.1, 0, s.2.2) := if_pos hs
          have K2' := K2 gk
          rw [en'] at K2'
          have ec : cmd f L (bk1 f L) 0 (s, τ) = ((cm3 f L (bk1 f L) 0 (s, τ)).1, wr (cm3 f L (bk1 f L) 0 (s, τ)).2 9 n ((cm3 f L (bk1 f L) 0 (s, τ)).2 4 5)) := by
            rw [cmd_y (x := (s, τ)) gk gl]
            show _ = _
            rw [show ((s, τ) : Sta × Mem).2 4 5 = τ 4 5 from rfl, en']
          have ecs : cms f L (bk1 f L) 0 (s, τ) = (gon f L (sgn f (cm3 f L (bk1 f L) 0 (s, τ)).1 59), wr (cm3 f L (bk1 f L) 0 (s, τ)).2 9 n ((cm3 f L (bk1 f L) 0 (s, τ)).2 4 5)) := by
            unfold cms
            rw [ec]
          rw [ecs] at K2'
          dsimp only at K2'
          have e2 : cm2 f L (s, τ) = opr f L (kwV f L s) n (gon f L s) (cm1 (kwV f L s) τ) := by
            unfold cm2
            show opr f L (kwV f L s) (τ 4 5).toNat _ _ = _
            rw [en']
          have h3f := cm3_fr (d := 0) fr_1 (x := (s, τ)) hI gl
          have h3I : okI f L (cm3 f L (bk1 f L) 0 (s, τ)).2 := pv_cm3 pv_1 (x := (s, τ)) hI gl
          have c5n : (cm3 f L (bk1 f L) 0 (s, τ)).2 5 n = kwV f L s := by
            rw [h3f.2.1 5 n (by decide) (by decide) (show (n : Int) < τ 4 5 + 1 by omega), ← en']
            exact cm2_5 (x := (s, τ))
          obtain ⟨σ3, eσ3⟩ : ∃ σ3, σ3 = wr (wr σ39 8 n v) 0 22 (n + 1) := ⟨_, rfl⟩
          have hr3 : rom f L s σ3 := by rw [eσ3]; exact rom_w (rom_w e39 (Or.inl (by decide))) (Or.inr ⟨rfl, rfl⟩)
          have hB3 := hr3.1
          have h3s := hr3.2.2.2.1
          have hR := (rom_rd hB3 (hr3.2.2.2.2.1.trans hs) hr3.2.2.2.2.2.1 tb.2)
          have wR := hR.2
          have hR := hR.1
          have hR : rom f L (gon f L s) (rdM σ3 f L (tkB f L (tkE f L s.1))) := by rw [hg]; exact hR
          have f3 : smF n σ3 σ := by
            rw [eσ3]
            exact smF_t (smF_w (Or.inr ⟨rfl, rfl⟩)) (smF_t (smF_w (by omega)) (smF_t (smF_s w39) (smF_s w17)))
          have k3 : σ3 8 n = kwV f L s := by rw [eσ3, wr_na (by decide), wr_s, ev]
          have z3 : σ3 0 22 = n + 1 := by rw [eσ3, wr_s]
          have h22R : rdM σ3 f L (tkB f L (tkE f L s.1)) 0 22 = cm1 (kwV f L s) τ 4 5 := by rw [wR 0 22 (by omega), z3, h4R]
          have kR : rdM σ3 f L (tkB f L (tkE f L s.1)) 8 n = kwV f L s := (wR 8 n (Or.inl (by decide))).trans k3
          refine go_aload_n (y := mX11_readsCommand) (pc := 46) dX11_readsCommand_46 rfl rfl ?_
          refine go_mget (y := mX11_readsCommand) (pc := 47) dX11_readsCommand_47 fl_X11_261 rfl rfl (by decide) (fun r47 => ?_)
          refine go_top (b := ((n : Nat) : Int)) (r22) (fun t47 => ?_)
          refine go_istore_n (y := mX11_readsCommand) (pc := 50) dX11_readsCommand_50 rfl (by decide) ?_
          refine go_aload_n (y := mX11_readsCommand) (pc := 51) dX11_readsCommand_51 rfl rfl ?_
          refine go_mref (y := mX11_readsCommand) (pc := 52) dX11_readsCommand_52 fl_X11_36 rfl rfl (by decide) ?_
          refine go_iload_n (y := mX11_readsCommand) (pc := 55) dX11_readsCommand_55 rfl rfl ?_
          refine go_iload_n (y := mX11_readsCommand) (pc := 56) dX11_readsCommand_56 rfl rfl ?_
          refine go_mias (y := mX11_readsCommand) (pc := 57) (r := 8) (k := n) dX11_readsCommand_57 (by decide) (by decide) rfl (by decide) rfl (by omega) (by decide) (by omega) ?_
          refine go_aload_n (y := mX11_readsCommand) (pc := 58) dX11_readsCommand_58 rfl rfl ?_
          refine go_dup (y := mX11_readsCommand) (pc := 59) dX11_readsCommand_59 rfl ?_
          refine go_mget (y := mX11_readsCommand) (pc := 60) dX11_readsCommand_60 fl_X11_261 rfl rfl (by decide) (fun r60 => ?_)
          refine go_top (b := ((n : Nat) : Int)) ((by rw [wr_na (by decide)]; exact r22)) (fun t60 => ?_)
          refine go_iconst (y := mX11_readsCommand) (pc := 63) dX11_readsCommand_63 ?_
          skip
          refine go_iadd (y := mX11_readsCommand) (pc := 64) dX11_readsCommand_64 ?_
          refine go_mput (y := mX11_readsCommand) (pc := 65) dX11_readsCommand_65 fp_X11_261 rfl rfl (by decide) (by omega) ?_
          refine go_mem (show _ = md σ3 ν μ from congrArg (fun t => md t ν μ) eσ3.symm) ?_
          refine go_aload_n (y := mX11_readsCommand) (pc := 68) dX11_readsCommand_68 rfl rfl ?_
          refine go_callV0 (y := mX11_readsCommand) (pc := 69) (y' := mX11_reads) (kc2 := 0) (ks2 := 0) dX11_readsCommand_69 ml_X11_195 ok_X11_reads (show shp 276 = _ from rfl) ⟨_, _, rfl⟩ (by decide) trivial (by decide) (Nat.le_of_ble_eq_true rfl) rfl (m_reads (f := f) (L := L) (e := tkE f L s.1) hB3 h3s tb.2 ?_)
          refine go_mem (show _ = md (rdM σ3 f L (tkB f L (tkE f L s.1))) ν μ from rfl) ?_
          refine go_iload_n (y := mX11_readsCommand) (pc := 72) dX11_readsCommand_72 rfl rfl ?_
          refine go_bipush (y := mX11_readsCommand) (pc := 73) dX11_readsCommand_73 (by decide) ?_
          refine go_icmp_ne (y := mX11_readsCommand) (pc := 75) (tgt := 87) dX11_readsCommand_75 (by decide) (by omega) (by omega) (fun h75 => ?_) (fun h75 => ?_)
          · skip
            have em : cm3 f L (bk1 f L) 0 (s, τ) = opr f L (kwV f L s) n (gon f L s) (cm1 (kwV f L s) τ) := by
              unfold cm3
              rw [if_neg (show ¬ kwV f L (s, τ).1 = 8 by show ¬ kwV f L s = 8; omega)]
              exact e2
            refine go_aload_n (y := mX11_readsCommand) (pc := 87) dX11_readsCommand_87 rfl rfl ?_
            refine go_iload_n (y := mX11_readsCommand) (pc := 88) dX11_readsCommand_88 rfl rfl ?_
            refine go_callV1 (y := mX11_readsCommand) (pc := 89) (y' := mX11_readsSingle) (kc2 := 0) (ks2 := 0) dX11_readsCommand_89 ml_X11_292 ok_X11_readsSingle (show shp 276 = _ from rfl) ⟨_, _, rfl⟩ (by decide) rfl (by decide) (Nat.le_of_ble_eq_true rfl) rfl (m_readsSingle (τ := cm1 (kwV f L s) τ) (s := gon f L s) (k := kwV f L s) (by omega) kR (by omega) hR hrl hS hN hT1 (fun σ89 e89 w89 y89 => ?_))
            refine go_aload_n (y := mX11_readsCommand) (pc := 92) dX11_readsCommand_92 rfl rfl ?_
            refine go_bipush (y := mX11_readsCommand) (pc := 93) dX11_readsCommand_93 (by decide) ?_
            refine go_callV1 (y := mX11_readsCommand) (pc := 95) (y' := mX11_takesSign) (kc2 := 0) (ks2 := 0) dX11_readsCommand_95 ml_X11_225 ok_X11_takesSign (show shp 276 = _ from rfl) ⟨_, _, rfl⟩ (by decide) rfl (by decide) (Nat.le_of_ble_eq_true rfl) rfl (m_takesSign (by omega) e89 (fun σ95 e95 w95 => ?_))
            refine go_return (y := mX11_readsCommand) (pc := 98) dX11_readsCommand_98 rfl ?_
            rw [em] at K2' c5n
            have o4 : (opr f L (kwV f L s) n (gon f L s) (cm1 (kwV f L s) τ)).2 4 5 = n + 1 := by rw [opr_o (by omega), h4R]
            refine K2' _ e95 (smF_t (smF_s w95) (smF_t (fun r j w w2 => w89 r j (by omega) (by omega)) (smF_t (smF_s wR) f3))) (fun g => ?_)
            have g9 := (gm_0 (show (1 : Int) ≠ 0 by decide) g).1
            have hv := y89 g9
            have t45 : (wr (opr f L (kwV f L s) n (gon f L s) (cm1 (kwV f L s) τ)).2 9 n ((opr f L (kwV f L s) n (gon f L s) (cm1 (kwV f L s) τ)).2 4 5)) 4 5 = n + 1 := by rw [wr_na (by decide), o4]
            have t5 : (wr (opr f L (kwV f L s) n (gon f L s) (cm1 (kwV f L s) τ)).2 9 n ((opr f L (kwV f L s) n (gon f L s) (cm1 (kwV f L s) τ)).2 4 5)) 5 n = kwV f L s := by rw [wr_na (by decide), c5n]
            refine ⟨?_, fun k hk1 hk2 => ?_, 1, ?_⟩
            · rw [t45, w95 0 22 (by omega), w89 0 22 (by omega) (by omega), h22R, h4R]
            · rw [t45] at hk2
              have ek : k = n := by omega
              subst ek
              unfold crel
              rw [t5]
              have a8 : σ95 8 k = kwV f L s := (w95 8 k (Or.inl (by decide))).trans ((w89 8 k (Or.inl (by decide)) (by omega)).trans kR)
              refine ⟨a8, by omega, fun w => ?_, fun w => ?_, fun w => ?_, fun w => absurd w (by omega)⟩
              · rw [w95 9 k (Or.inl (by decide)), wr_na (by decide)]
                exact hv.1 w
              · rw [w95 10 k (Or.inl (by decide)), wr_na (by decide)]
                exact hv.2.1 w
              · rw [w95 11 k (Or.inl (by decide)), wr_na (by decide)]
                exact hv.2.2 w
            · refine Or.inr ⟨by rw [t45]; omega, Or.inl ⟨by rw [t5]; omega, by rw [wr_s, o4]; omega, ?_⟩⟩
              show Int.toNat _ ≤ n + 1
              rw [t45]
              omega
          · skip
            skip
            have em : cm3 f L (bk1 f L) 0 (s, τ) = brS f L (bk1 f L) 0 (opr f L 8 n (gon f L s) (cm1 (kwV f L s) τ)) := by
              unfold cm3
              rw [if_pos (show kwV f L (s, τ).1 = 8 by show kwV f L s = 8; omega), e2, show kwV f L s = 8 by omega]
            refine go_aload_n (y := mX11_readsCommand) (pc := 78) dX11_readsCommand_78 rfl rfl ?_
            refine go_iload_n (y := mX11_readsCommand) (pc := 79) dX11_readsCommand_79 rfl rfl ?_
            refine go_iload_n (y := mX11_readsCommand) (pc := 80) dX11_readsCommand_80 rfl rfl ?_
            refine go_callV2 (y := mX11_readsCommand) (pc := 81) (y' := mX11_readsRepeat) (kc2 := 0) (ks2 := 0) dX11_readsCommand_81 ml_X11_288 ok_X11_readsRepeat (show shp 276 = _ from rfl) ⟨_, _, rfl⟩ (by decide) ⟨rfl, rfl⟩ (by decide) (Nat.le_of_ble_eq_true rfl) rfl (m_readsRepeat2 (s := gon f L s) (τ := cm1 (kwV f L s) τ) (by omega) hR (fun _ => h22R) h4R hI1 hrl hS hN hT1 (fun σ81 e81 w81 y81 => ?_))
            rw [← em] at e81 y81
            refine go_goto (y := mX11_readsCommand) (pc := 84) (tgt := 92) dX11_readsCommand_84 (by decide) ?_
            refine go_aload_n (y := mX11_readsCommand) (pc := 92) dX11_readsCommand_92 rfl rfl ?_
            refine go_bipush (y := mX11_readsCommand) (pc := 93) dX11_readsCommand_93 (by decide) ?_
            refine go_callV1 (y := mX11_readsCommand) (pc := 95) (y' := mX11_takesSign) (kc2 := 0) (ks2 := 0) dX11_readsCommand_95 ml_X11_225 ok_X11_takesSign (show shp 276 = _ from rfl) ⟨_, _, rfl⟩ (by decide) rfl (by decide) (Nat.le_of_ble_eq_true rfl) rfl (m_takesSign (by omega) e81 (fun σ95 e95 w95 => ?_))
            refine go_return (y := mX11_readsCommand) (pc := 98) dX11_readsCommand_98 rfl ?_
            obtain ⟨Z, eZ⟩ : ∃ Z, Z = (cm3 f L (bk1 f L) 0 (s, τ)).2 := ⟨_, rfl⟩
            rw [← eZ] at K2' y81 c5n h3f h3I
            have hz4 := h3I.2.2
            have hz1 := h3f.1
            refine K2' _ e95 (smF_t (smF_s w95) (smF_t (fun r j w w2 => w81 r j w (by omega)) (smF_t (smF_s wR) f3))) (fun g => ?_)
            obtain ⟨y1, y2, y3, y4, y5, n9, y6⟩ := y81 (gm_0 (show (1 : Int) ≠ 0 by decide) g).1
            have t45 : wr Z 9 n (Z 4 5) 4 5 = Z 4 5 := wr_na (by decide)
            have t5 : wr Z 9 n (Z 4 5) 5 n = 8 := by rw [wr_na (by decide), c5n]; omega
            have z1 : (n : Int) + 1 ≤ Z 4 5 := by have h9 : τ 4 5 + 1 ≤ Z 4 5 := hz1; omega
            refine ⟨?_, fun k hk1 hk2 => ?_, n9 + 1, ?_⟩
            · rw [t45, w95 0 22 (by omega)]
              exact y4
            · rw [t45] at hk2
              by_cases ek : k = n
              · subst ek
                unfold crel
                rw [t5]
                have a8 : σ95 8 k = 8 := (w95 8 k (Or.inl (by decide))).trans ((w81 8 k (Or.inl (by decide)) (Or.inr (Or.inr (Or.inr ⟨rfl, rfl⟩)))).trans (kR.trans (by omega)))
                refine ⟨a8, by decide, fun w => absurd w (by decide), fun _ => ?_, fun w => absurd w (by decide), fun _ => ⟨?_, ?_⟩⟩
                · rw [w95 10 k (Or.inl (by decide)), wr_na (by decide)]
                  exact y1
                · rw [w95 11 k (Or.inl (by decide)), wr_s]
                  exact y3
                · rw [wr_na (by decide)]
                  exact y2
              · refine crel_f (y5 k (by omega) hk2) (fun a h5 h9 => wr_n (by omega)) (fun a h8 h11 => w95 a k (by omega))
            · refine Or.inr ⟨by rw [t45]; omega, Or.inr ⟨t5, by decide, (Z 4 5).toNat, by omega, by rw [t45]; omega, by rw [wr_s]; omega, ?_, ?_⟩⟩
              · exact wfb_f (fun k h1 h2 => ⟨wr_na (by decide), wr_ni (by omega)⟩) y6
              · exact wfb_0 (by rw [t45]; omega) _
        · skip
          have g1 := bI_0 b39 h42
          have gl : ¬ τ 4 5 < 30 := fun q => by rw [mus_t q] at g1; exact g1 hs
          refine J45 v σ39 (K2 gk σ39 ?_ (smF_t (smF_s w39) (smF_s w17)) (fun w => absurd (cms_0 w).2.2 gl))
          have e1 : (cmd f L (bk1 f L) 0 (s, τ)).1 = mus s False 4 := by
            rw [cmd_t (x := (s, τ)) gk (show 30 ≤ τ 4 5 by omega)]
            show gon f L (mus s ((4 : Int) = 0) 4) = mus s False 4
            rw [mus_e (q := False) (iff_of_false (by decide) (fun w => w)), mus_f hs (fun w => w)]
            exact gon_c (show (4 : Int) ≠ 0 by decide)
          have e3 : (cms f L (bk1 f L) 0 (s, τ)).1 = mus s False 4 := by
            show gon f L (sgn f (cmd f L (bk1 f L) 0 (s, τ)).1 59) = _
            rw [e1]
            unfold sgn
            rw [mus_f hs (fun w => w)]
            rw [mus_c (s := (s.1, 4, (s.1 : Int))) (show (4 : Int) ≠ 0 by decide)]
            exact gon_c (show (4 : Int) ≠ 0 by decide)
          rw [e3]
          rw [mus_e (q := False) (iff_of_false gl (fun w => w))] at e39
          exact e39
      refine go_aload_n (y := mX11_readsCommand) (pc := 23) dX11_readsCommand_23 rfl rfl ?_
      refine go_aload_n (y := mX11_readsCommand) (pc := 24) dX11_readsCommand_24 rfl rfl ?_
      refine go_mget (y := mX11_readsCommand) (pc := 25) dX11_readsCommand_25 fl_X11_261 rfl rfl (by decide) (fun r25 => ?_)
      refine go_top (b := τ 4 5) (q22) (fun t25 => ?_)
      refine go_bipush (y := mX11_readsCommand) (pc := 28) dX11_readsCommand_28 (by decide) ?_
      refine go_icmp_ge (y := mX11_readsCommand) (pc := 30) (tgt := 37) dX11_readsCommand_30 (by decide) (by omega) (by omega) (fun h30 => ?_) (fun h30 => ?_)
      · skip
        refine go_iconst (y := mX11_readsCommand) (pc := 37) dX11_readsCommand_37 ?_
        exact J38 0 (bI_f (by omega)).symm
      · skip
        refine go_iconst (y := mX11_readsCommand) (pc := 33) dX11_readsCommand_33 ?_
        refine go_goto (y := mX11_readsCommand) (pc := 34) (tgt := 38) dX11_readsCommand_34 (by decide) ?_
        exact J38 1 (bI_t (by omega)).symm
  refine go_aload_n (y := mX11_readsCommand) (pc := 0) dX11_readsCommand_0 rfl rfl ?_
  refine go_callV0 (y := mX11_readsCommand) (pc := 1) (y' := mX11_commandHere) (kc2 := 0) (ks2 := 0) dX11_readsCommand_1 ml_X11_285 ok_X11_commandHere (show shp 276 = _ from rfl) ⟨_, _, rfl⟩ (by decide) trivial (by decide) (Nat.le_of_ble_eq_true rfl) rfl (m_commandHere hr hs (fun v1 e1 b1 => ?_))
  refine go_istore_n (y := mX11_readsCommand) (pc := 4) dX11_readsCommand_4 rfl (by decide) ?_
  refine go_aload_n (y := mX11_readsCommand) (pc := 5) dX11_readsCommand_5 rfl rfl ?_
  refine go_iload_n (y := mX11_readsCommand) (pc := 6) dX11_readsCommand_6 rfl rfl ?_
  refine go_iconst (y := mX11_readsCommand) (pc := 7) dX11_readsCommand_7 ?_
  refine go_icmp_eq (y := mX11_readsCommand) (pc := 8) (tgt := 15) dX11_readsCommand_8 (by decide) (by omega) (by omega) (fun h8 => ?_) (fun h8 => ?_)
  · skip
    refine go_iconst (y := mX11_readsCommand) (pc := 15) dX11_readsCommand_15 ?_
    exact Jw v1 0 e1 b1 (bI_f (by omega)).symm
  · skip
    refine go_iconst (y := mX11_readsCommand) (pc := 11) dX11_readsCommand_11 ?_
    refine go_goto (y := mX11_readsCommand) (pc := 12) (tgt := 16) dX11_readsCommand_12 (by decide) ?_
    exact Jw v1 1 e1 b1 (bI_t (by omega)).symm
set_option maxRecDepth 8000 in
set_option maxHeartbeats 4000000 in
theorem m_readsCommands2 (hr : rom f L s σ) (h22 : s.2.1 = 0 → σ 0 22 = τ 4 5) (hI : okI f L τ) (hrl : rel S t ν) (hS : wfS S) (hN : ∀ m : Nat, (m : Int) < S 0 7 → isn 6 (S 1 m)) (hT : nmT S τ) {Q : Option Value → Mem → Prop} {X : String → Mem → Prop} (K : ∀ σ', rom f L (fxS f (bk2 f L (s, τ)).1) σ' → smF (τ 4 5).toNat σ' σ → ((fxS f (bk2 f L (s, τ)).1).2.1 = 0 → crs 2 (τ 4 5).toNat (bk2 f L (s, τ)).2 σ') → Q none (md σ' ν μ)) : mt 289 14 0 0 mX11_readsCommands [.ref 276, .int (iI 0)] Q X (md σ ν μ) := by
  show go 289 14 0 0 mX11_readsCommands Q X 0 [.ref 276, .int (iI 0)] [] _
  obtain ⟨c0, ec0⟩ : ∃ c0, c0 = (τ 4 5).toNat := ⟨_, rfl⟩
  rw [← ec0] at K
  have hc := hI.2.2
  have J31 : ∀ σ1 : Mem, Q none (md σ1 ν μ) → go 289 14 0 0 mX11_readsCommands Q X 31 [.ref 276, .int (iI 0)] [] (md σ1 ν μ) := by
    intro σ1 hQ
    refine go_return (y := mX11_readsCommands) (pc := 31) dX11_readsCommands_31 rfl ?_
    exact hQ
  have dead : ∀ (s1 : Sta) (σ1 : Mem), s1.2.1 ≠ 0 → rom f L s1 σ1 → Q none (md σ1 ν μ) → go 289 14 0 0 mX11_readsCommands Q X 0 [.ref 276, .int (iI 0)] [] (md σ1 ν μ) := by
    intro s1 σ1 hs1 h1 hQ
    refine go_aload_n (y := mX11_readsCommands) (pc := 0) dX11_readsCommands_0 rfl rfl ?_
    refine go_mget (y := mX11_readsCommands) (pc := 1) dX11_readsCommands_1 fl_X11_189 rfl rfl (by decide) (fun r1 => ?_)
    refine go_top (b := s1.2.1) (h1.2.2.2.2.1) (fun t1 => ?_)
    refine go_if_ne (y := mX11_readsCommands) (pc := 4) (tgt := 31) dX11_readsCommands_4 (by decide) (by omega) (fun h4 => ?_) (fun h4 => ?_)
    · skip
      exact J31 σ1 hQ
    · skip
      exact absurd h4 hs1
  have loop : ∀ (n : Nat) (x : Sta × Mem) (σ1 : Mem), okI f L x.2 → nmT S x.2 → rom f L x.1 σ1 → smF c0 σ1 σ → (c0 : Int) ≤ x.2 4 5 → (x.1.2.1 = 0 → 31 ≤ x.2 4 5 + n ∧ crs 2 c0 x.2 σ1) → blk f L (bk1 f L) 0 n x = bk2 f L (s, τ) → go 289 14 0 0 mX11_readsCommands Q X 0 [.ref 276, .int (iI 0)] [] (md σ1 ν μ) := by
    intro n
    induction n with
    | zero =>
      intro x σ1 hI hT h1 hw hc0 hx he
      have hne : x.1.2.1 ≠ 0 := fun g => by have h9 := (hx g).1; have h8 := hI.2.2; omega
      rw [blk] at he
      refine dead x.1 σ1 hne h1 (K σ1 ?_ hw (fun g => ?_))
      · rw [← he]
        unfold fxS
        rw [mus_c hne]
        exact h1
      · rw [← he] at g ⊢
        exact absurd (fxS_0 g) hne
    | succ n ih =>
      intro x σ1 hI hT h1 hw hc0 hx he
      by_cases hne : x.1.2.1 = 0
      · skip
        have hB9 := hI.2.2
        rw [blk] at he
        obtain ⟨hx1, hx2⟩ := hx hne
        have tb := tkT_b (f := f) (b := x.1.1)
        have stop : (tkK f x.1.1 = 0 ∨ (tkK f x.1.1 = 3 ∧ f (x.1.1 : Nat) = 41)) → Q none (md σ1 ν μ) := by
          intro g
          rw [if_neg (fun w => by omega)] at he
          refine K σ1 ?_ hw (fun _ => ?_)
          · rw [← he]
            unfold fxS
            rw [mus_t (by omega)]
            exact h1
          · rw [← he]
            exact hx2
        refine go_aload_n (y := mX11_readsCommands) (pc := 0) dX11_readsCommands_0 rfl rfl ?_
        refine go_mget (y := mX11_readsCommands) (pc := 1) dX11_readsCommands_1 fl_X11_189 rfl rfl (by decide) (fun r1 => ?_)
        refine go_top (b := x.1.2.1) (h1.2.2.2.2.1) (fun t1 => ?_)
        refine go_if_ne (y := mX11_readsCommands) (pc := 4) (tgt := 31) dX11_readsCommands_4 (by decide) (by omega) (fun h4 => ?_) (fun h4 => ?_)
        · skip
          exact absurd hne h4
        · skip
          refine go_aload_n (y := mX11_readsCommands) (pc := 7) dX11_readsCommands_7 rfl rfl ?_
          refine go_mget (y := mX11_readsCommands) (pc := 8) dX11_readsCommands_8 fl_X11_183 rfl rfl (by decide) (fun r8 => ?_)
          refine go_top (b := tkT f x.1.1) (h1.2.2.1) (fun t8 => ?_)
          refine go_if_eq (y := mX11_readsCommands) (pc := 11) (tgt := 31) dX11_readsCommands_11 (by decide) (by omega) (fun h11 => ?_) (fun h11 => ?_)
          · skip
            exact J31 σ1 (stop (Or.inl (tkT_0.mp h11)))
          · skip
            refine go_aload_n (y := mX11_readsCommands) (pc := 14) dX11_readsCommands_14 rfl rfl ?_
            refine go_bipush (y := mX11_readsCommands) (pc := 15) dX11_readsCommands_15 (by decide) ?_
            refine go_callV1 (y := mX11_readsCommands) (pc := 17) (y' := mX11_isSign) (kc2 := 0) (ks2 := 0) dX11_readsCommands_17 ml_X11_202 ok_X11_isSign (show shp 276 = _ from rfl) ⟨_, _, rfl⟩ (by decide) rfl (by decide) (Nat.le_of_ble_eq_true rfl) rfl (m_isSign (by omega) h1 (fun v17 e17 b17 => ?_))
            refine go_if_ne (y := mX11_readsCommands) (pc := 20) (tgt := 31) dX11_readsCommands_20 (by decide) (by omega) (fun h20 => ?_) (fun h20 => ?_)
            · skip
              exact J31 σ1 (stop (Or.inr (bI_1 e17 h20).2))
            · skip
              have g17 := bI_0 e17 h20
              refine go_aload_n (y := mX11_readsCommands) (pc := 23) dX11_readsCommands_23 rfl rfl ?_
              refine go_iload_n (y := mX11_readsCommands) (pc := 24) dX11_readsCommands_24 rfl rfl ?_
              refine go_callV1 (y := mX11_readsCommands) (pc := 25) (y' := mX11_readsCommand) (kc2 := 0) (ks2 := 0) dX11_readsCommands_25 ml_X11_295 ok_X11_readsCommand (show shp 276 = _ from rfl) ⟨_, _, rfl⟩ (by decide) rfl (by decide) (Nat.le_of_ble_eq_true rfl) rfl (m_readsCommand2 (s := x.1) (τ := x.2) h1 hne hx2.1 hI hrl hS hN hT (fun hk σ25 e25 w25 => ?_) (fun hk σ25 e25 w25 y25 => ?_))
              · skip
                refine go_goto (y := mX11_readsCommands) (pc := 28) (tgt := 0) dX11_readsCommands_28 (by decide) ?_
                have ne9 : (mus x.1 False 1).2.1 ≠ 0 := fun w => (mus_0 (show (1 : Int) ≠ 0 by decide) w).2
                by_cases gw : tkK f x.1.1 = 1
                · rw [if_pos ⟨hne, gw⟩] at he
                  have ecs : (cms f L (bk1 f L) 0 x).1 = mus x.1 False 1 := by
                    show gon f L (sgn f (cmd f L (bk1 f L) 0 x).1 59) = _
                    rw [cmd_n hk]
                    show gon f L (sgn f (gon f L (mus x.1 ((1 : Int) = 0) 1)) 59) = _
                    rw [mus_e (q := False) (iff_of_false (by decide) (fun w => w)), gon_c ne9]
                    unfold sgn
                    rw [mus_c ne9, gon_c ne9]
                  have e2 : (cms f L (bk1 f L) 0 x).2 = x.2 := by
                    show (cmd f L (bk1 f L) 0 x).2 = x.2
                    rw [cmd_n hk]
                  refine ih (cms f L (bk1 f L) 0 x) σ25 (by rw [e2]; exact hI) (by rw [e2]; exact hT) (by rw [ecs]; exact e25) (smF_t (smF_s w25) hw) (by rw [e2]; exact hc0) (fun g => ?_) he
                  rw [ecs] at g
                  exact absurd g ne9
                · rw [if_neg (fun w => gw w.2)] at he
                  have g0 : ¬ tkK f x.1.1 = 0 := fun w => h11 (tkT_0.mpr w)
                  refine dead _ σ25 ne9 e25 (K σ25 ?_ (smF_t (smF_s w25) hw) (fun g => ?_))
                  · rw [← he]
                    unfold fxS
                    rw [mus_e (q := False) (iff_of_false (fun w => by rcases w with w | w | w; exact g0 w; exact gw w; exact g17 ⟨hne, w⟩) (fun w => w))]
                    exact e25
                  · rw [← he] at g
                    have g9 := (mus_0 (show (1 : Int) ≠ 0 by decide) g).2
                    exfalso
                    rcases g9 with w | w | w
                    · exact g0 w
                    · exact gw w
                    · exact g17 ⟨hne, w⟩
              · skip
                refine go_goto (y := mX11_readsCommands) (pc := 28) (tgt := 0) dX11_readsCommands_28 (by decide) ?_
                have gw : tkK f x.1.1 = 1 := by
                  by_cases q : tkK f x.1.1 = 1
                  · exact q
                  · exact absurd (kwV_1 q) hk
                rw [if_pos ⟨hne, gw⟩] at he
                have hf := fr_cms (d := 0) fr_1 x hI
                obtain ⟨q1, q2, n1, q3⟩ := hx2
                have xn : (((x.2 4 5).toNat : Nat) : Int) = x.2 4 5 := by omega
                refine ih (cms f L (bk1 f L) 0 x) σ25 (pv_cms pv_1 x hI) (nmT_f (fr_cms fr_1) hI hT) e25 (smF_t (smF_l w25 (by omega)) hw) (by have := hf.1; omega) (fun g => ?_) he
                obtain ⟨p1, p2, n2, p3⟩ := y25 g
                have p3' : wfb (cms f L (bk1 f L) 0 x).2 2 n2 (x.2 4 5).toNat ((cms f L (bk1 f L) 0 x).2 4 5).toNat := p3
                have inc : x.2 4 5 + 1 ≤ (cms f L (bk1 f L) 0 x).2 4 5 := by
                  have h9 := cms_0 g
                  have hl := h9.2.2
                  show x.2 4 5 + 1 ≤ (cmd f L (bk1 f L) 0 x).2 4 5
                  rw [cmd_y h9.2.1 hl]
                  dsimp only
                  rw [wr_na (by decide)]
                  exact (cm3_fr (d := 0) fr_1 hI hl).1
                refine ⟨by omega, p1, fun k hk1 hk2 => ?_, n1 + n2, ?_⟩
                · by_cases hlt : (k : Int) < x.2 4 5
                  · exact crel_f (q2 k hk1 hlt) (fun a h5 h9 => hf.2.1 a k h5 h9 hlt) (fun a h8 h11 => w25 a k (by omega) (by omega))
                  · exact p2 k (by show (x.2 4 5).toNat ≤ k; omega) hk2
                · refine wfb_a (wfb_f (fun k h1 h2 => ⟨hf.2.1 5 k (by decide) (by decide) (by omega), hf.2.1 9 k (by decide) (by decide) (by omega)⟩) q3) (by omega) (by omega) p3'
      · have he' : x = bk2 f L (s, τ) := by
          rw [blk, if_neg (fun w => hne w.1)] at he
          exact he
        refine dead x.1 σ1 hne h1 (K σ1 ?_ hw (fun g => ?_))
        · rw [← he']
          unfold fxS
          rw [mus_c hne]
          exact h1
        · rw [← he'] at g
          exact absurd (fxS_0 g) hne
  exact loop 31 (s, τ) σ hI hT hr (smF_r _ _) (by show (c0 : Int) ≤ τ 4 5; omega) (fun g => ⟨by show 31 ≤ τ 4 5 + (31 : Nat); omega, h22 g, fun k h1 h2 => absurd (show (k : Int) < τ 4 5 from h2) (by omega), 0, by show (τ 4 5).toNat ≤ c0; omega⟩) rfl
end MBlock
