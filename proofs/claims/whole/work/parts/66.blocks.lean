/-! SCRIPTS READ BY THE CLASS: brackets, commands, blocks -/
abbrev Blk : Type := Sta × Mem → Sta × Mem
def brS (f : Int → Int) (L : Nat) (B : Blk) (d : Nat) (x : Sta × Mem) : Sta × Mem :=
  if 2 ≤ d then (gon f L (mus (sgn f x.1 40) False 4), x.2) else (gon f L (sgn f (B (gon f L (sgn f x.1 40), x.2)).1 41), (B (gon f L (sgn f x.1 40), x.2)).2)
def cm1 (k : Int) (μ : Mem) : Mem := wr (wr μ 4 5 (μ 4 5 + 1)) 5 (μ 4 5).toNat k
def cm2 (f : Int → Int) (L : Nat) (x : Sta × Mem) : Sta × Mem := opr f L (kwV f L x.1) (x.2 4 5).toNat (gon f L x.1) (cm1 (kwV f L x.1) x.2)
def cm3 (f : Int → Int) (L : Nat) (B : Blk) (d : Nat) (x : Sta × Mem) : Sta × Mem := if kwV f L x.1 = 8 then brS f L B d (cm2 f L x) else cm2 f L x
def cmd (f : Int → Int) (L : Nat) (B : Blk) (d : Nat) (x : Sta × Mem) : Sta × Mem :=
  if kwV f L x.1 = -1 then (gon f L (mus x.1 ((1 : Int) = 0) 1), x.2)
  else if 30 ≤ x.2 4 5 then (gon f L (mus x.1 ((4 : Int) = 0) 4), x.2)
  else ((cm3 f L B d x).1, wr (cm3 f L B d x).2 9 (x.2 4 5).toNat ((cm3 f L B d x).2 4 5))
def cms (f : Int → Int) (L : Nat) (B : Blk) (d : Nat) (x : Sta × Mem) : Sta × Mem := (gon f L (sgn f (cmd f L B d x).1 59), (cmd f L B d x).2)
def blk (f : Int → Int) (L : Nat) (B : Blk) (d : Nat) : Nat → Sta × Mem → Sta × Mem
  | 0, x => x
  | n + 1, x => if x.1.2.1 = 0 ∧ tkK f x.1.1 = 1 then blk f L B d n (cms f L B d x) else x
def bkm (f : Int → Int) (L : Nat) : Blk := id
def bk0 (f : Int → Int) (L : Nat) : Blk := blk f L (bkm f L) 2 31
def bk1 (f : Int → Int) (L : Nat) : Blk := blk f L (bk0 f L) 1 31
def bk2 (f : Int → Int) (L : Nat) : Blk := blk f L (bk1 f L) 0 31
/-- what holds of a memory into which a script is read -/
def okI (f : Int → Int) (L : Nat) (μ : Mem) : Prop := okT f L μ ∧ (0 ≤ μ 10 7 ∧ μ 10 7 ≤ 12) ∧ (0 ≤ μ 4 5 ∧ μ 4 5 ≤ 30)
def pvB (f : Int → Int) (L : Nat) (B : Blk) : Prop := ∀ x : Sta × Mem, okI f L x.2 → okI f L (B x).2
section OkI
variable {f : Int → Int} {L : Nat} {B : Blk} {d : Nat}
theorem okI_wr {μ : Mem} {a i : Nat} {v : Int} (h : okI f L μ) (ha : 5 ≤ a ∧ a ≤ 9) : okI f L (wr μ a i v) := by
  obtain ⟨ht, h10, h4⟩ := h
  exact ⟨okT_wr ht (by omega) (by omega), by rw [wr_na (by omega)]; exact h10, by rw [wr_na (by omega)]; exact h4⟩
theorem okI_cm1 {μ : Mem} {k : Int} (h : okI f L μ) (hl : μ 4 5 < 30) : okI f L (cm1 k μ) := by
  obtain ⟨ht, h10, h4⟩ := h
  unfold cm1
  refine ⟨okT_wr (okT_wr ht (by decide) (by decide)) (by decide) (by decide), by rw [wr_na (by decide), wr_na (by decide)]; exact h10, ?_⟩
  rw [wr_na (by decide), wr_s]
  omega
theorem okI_opr {μ : Mem} {k : Int} {i : Nat} {s : Sta} (h : okI f L μ) : okI f L (opr f L k i s μ).2 := by
  unfold opr
  (repeat' split) <;> (repeat' refine okI_wr ?_ (by decide)) <;> exact h
theorem pv_brS (hB : pvB f L B) : pvB f L (brS f L B d) := by
  intro x h
  unfold brS
  split
  · exact h
  · exact hB _ h
theorem pv_cm3 (hB : pvB f L B) {x : Sta × Mem} (h : okI f L x.2) (hl : x.2 4 5 < 30) : okI f L (cm3 f L B d x).2 := by
  unfold cm3
  have h2 : okI f L (cm2 f L x).2 := okI_opr (okI_cm1 h hl)
  split
  · exact pv_brS hB _ h2
  · exact h2
theorem pv_cmd (hB : pvB f L B) : pvB f L (cmd f L B d) := by
  intro x h
  unfold cmd
  split
  · exact h
  · split
    · exact h
    · exact okI_wr (pv_cm3 hB h (by omega)) (by decide)
theorem pv_cms (hB : pvB f L B) : pvB f L (cms f L B d) := fun x h => pv_cmd hB x h
theorem pv_blk (hB : pvB f L B) : ∀ n : Nat, pvB f L (blk f L B d n)
  | 0, _, h => h
  | n + 1, x, h => by
    rw [blk]
    split
    · exact pv_blk hB n _ (pv_cms hB _ h)
    · exact h
theorem pv_m : pvB f L (bkm f L) := fun _ h => h
theorem pv_0 : pvB f L (bk0 f L) := pv_blk pv_m 31
theorem pv_1 : pvB f L (bk1 f L) := pv_blk pv_0 31
theorem pv_2 : pvB f L (bk2 f L) := pv_blk pv_1 31
end OkI
theorem cmd_n {f : Int → Int} {L : Nat} {B : Blk} {d : Nat} {x : Sta × Mem} (g : kwV f L x.1 = -1) : cmd f L B d x = (gon f L (mus x.1 ((1 : Int) = 0) 1), x.2) := if_pos g
theorem cmd_t {f : Int → Int} {L : Nat} {B : Blk} {d : Nat} {x : Sta × Mem} (g : kwV f L x.1 ≠ -1) (h : 30 ≤ x.2 4 5) : cmd f L B d x = (gon f L (mus x.1 ((4 : Int) = 0) 4), x.2) := by
  unfold cmd
  rw [if_neg g, if_pos h]
theorem cmd_y {f : Int → Int} {L : Nat} {B : Blk} {d : Nat} {x : Sta × Mem} (g : kwV f L x.1 ≠ -1) (h : x.2 4 5 < 30) : cmd f L B d x = ((cm3 f L B d x).1, wr (cm3 f L B d x).2 9 (x.2 4 5).toNat ((cm3 f L B d x).2 4 5)) := by
  unfold cmd
  rw [if_neg g, if_neg (by omega)]
section FBlock
variable {f : Int → Int} {ρ : Nat → Int} {μ : Mem} {L : Nat} {s : Sta}
set_option maxRecDepth 8000 in
set_option maxHeartbeats 4000000 in
theorem f_readBrackets0 (hI : okI f L μ) (hr : rok f L s ρ) {Q : Option Value → Mem → Prop} {X : String → Mem → Prop} (K : ∀ ρ', rok f L (brS f L (bkm f L) 2 (s, μ)).1 ρ' → Q none (pr ρ' (brS f L (bkm f L) 2 (s, μ)).2)) : mt 276 3 0 0 mX6_readBrackets [.ref 4, .ref 3, .ref 10, .int (iI 2)] Q X (pr ρ μ) := by
  show go 276 3 0 0 mX6_readBrackets Q X 0 [.ref 4, .ref 3, .ref 10, .int (iI 2)] [] _
  have ht := hI.1
  unfold brS at K
  rw [if_pos (by decide)] at K
  have J20 : ∀ e : Int, (e = 4 ∨ e = 1) → (e = 4 ↔ (tkK f s.1 = 3 ∧ f (s.1 : Nat) = 40)) → go 276 3 0 0 mX6_readBrackets Q X 20 [.ref 4, .ref 3, .ref 10, .int (iI 2)] [.int (iI e), .ref 3] (pr ρ μ) := by
    intro e he hee
    refine go_callV1 (y := mX6_readBrackets) (pc := 20) (y' := mX9_take) (kc2 := 0) (ks2 := 0) dX6_readBrackets_20 ml_X6_59 ok_X9_take (show shp 3 = _ from rfl) ⟨_, _, rfl⟩ (by decide) rfl (by decide) (Nat.le_of_ble_eq_true rfl) rfl (f_take (by omega) (by (repeat' refine okT_wr ?_ (by decide) (by decide)); exact ht) hr (fun ρ20 e20 => ?_))
    refine go_return (y := mX6_readBrackets) (pc := 23) dX6_readBrackets_23 rfl ?_
    refine K ρ20 ?_
    unfold sgn
    rcases he with rfl | rfl
    · rw [mus_t (p := tkK f s.1 = 3 ∧ f (s.1 : Nat) = 40) (hee.mp rfl), mus_e (p := False) (q := (4 : Int) = 0) (iff_of_false (fun w => w) (by decide))]
      exact e20
    · have g : ¬ (tkK f s.1 = 3 ∧ f (s.1 : Nat) = 40) := fun w => absurd (hee.mpr w) (by decide)
      rw [mus_ff (show (1 : Int) ≠ 0 by decide) g, mus_e (p := tkK f s.1 = 3 ∧ f (s.1 : Nat) = 40) (q := (1 : Int) = 0) (iff_of_false g (by decide))]
      exact e20
  refine go_iload_n (y := mX6_readBrackets) (pc := 0) dX6_readBrackets_0 rfl rfl ?_
  refine go_iconst (y := mX6_readBrackets) (pc := 1) dX6_readBrackets_1 ?_
  refine go_icmp_lt (y := mX6_readBrackets) (pc := 2) (tgt := 24) dX6_readBrackets_2 (by decide) (by omega) (by omega) (fun h2 => ?_) (fun h2 => ?_)
  · skip
    exact absurd h2 (by decide)
  · skip
    refine go_aload_n (y := mX6_readBrackets) (pc := 5) dX6_readBrackets_5 rfl rfl ?_
    refine go_aload_n (y := mX6_readBrackets) (pc := 6) dX6_readBrackets_6 rfl rfl ?_
    refine go_bipush (y := mX6_readBrackets) (pc := 7) dX6_readBrackets_7 (by decide) ?_
    refine go_callV1 (y := mX6_readBrackets) (pc := 9) (y' := mX9_isAtSign) (kc2 := 0) (ks2 := 0) dX6_readBrackets_9 ml_X6_117 ok_X9_isAtSign (show shp 3 = _ from rfl) ⟨_, _, rfl⟩ (by decide) rfl (by decide) (Nat.le_of_ble_eq_true rfl) rfl (f_isAtSign (by omega) (by (repeat' refine okT_wr ?_ (by decide) (by decide)); exact ht) hr (fun v9 e9 b9 => ?_))
    refine go_if_eq (y := mX6_readBrackets) (pc := 12) (tgt := 19) dX6_readBrackets_12 (by decide) (by omega) (fun h12 => ?_) (fun h12 => ?_)
    · skip
      refine go_iconst (y := mX6_readBrackets) (pc := 19) dX6_readBrackets_19 ?_
      exact J20 1 (by omega) (iff_of_false (by decide) (bI_0 e9 h12))
    · skip
      refine go_iconst (y := mX6_readBrackets) (pc := 15) dX6_readBrackets_15 ?_
      refine go_goto (y := mX6_readBrackets) (pc := 16) (tgt := 20) dX6_readBrackets_16 (by decide) ?_
      exact J20 4 (by omega) (iff_of_true rfl (bI_1 e9 h12))
set_option maxRecDepth 8000 in
set_option maxHeartbeats 4000000 in
theorem f_readCommand0 (hI : okI f L μ) (hr : rok f L s ρ) {Q : Option Value → Mem → Prop} {X : String → Mem → Prop} (K : ∀ ρ', rok f L (cmd f L (bkm f L) 2 (s, μ)).1 ρ' → Q none (pr ρ' (cmd f L (bkm f L) 2 (s, μ)).2)) : mt 276 7 0 0 mX6_readCommand [.ref 4, .ref 3, .ref 10, .int (iI 2)] Q X (pr ρ μ) := by
  show go 276 7 0 0 mX6_readCommand Q X 0 [.ref 4, .ref 3, .ref 10, .int (iI 2), .null, .null] [] _
  have ht := hI.1
  have hc := hI.2.2
  have J89 : kwV f L s ≠ -1 → μ 4 5 < 30 → ∀ (v : Int) (ρ : Nat → Int), rok f L (cm3 f L (bkm f L) 2 (s, μ)).1 ρ → go 276 7 0 0 mX6_readCommand Q X 89 [.ref 4, .ref 3, .ref 10, .int (iI 2), .int (iI v), .int (iI ((μ 4 5).toNat : Nat))] [] (pr ρ (cm3 f L (bkm f L) 2 (s, μ)).2) := by
    intro g hl v ρ h9
    have h3 : okI f L (cm3 f L (bkm f L) 2 (s, μ)).2 := pv_cm3 pv_m hI hl
    have hc3 := h3.2.2
    rw [cmd_y (x := (s, μ)) g hl] at K
    refine go_aload_n (y := mX6_readCommand) (pc := 89) dX6_readCommand_89 rfl rfl ?_
    refine go_getR (y := mX6_readCommand) (pc := 90) dX6_readCommand_90 fl_X6_24 rfl rfl (by decide) ?_
    refine go_iload (y := mX6_readCommand) (pc := 93) dX6_readCommand_93 rfl ?_
    refine go_aload_n (y := mX6_readCommand) (pc := 95) dX6_readCommand_95 rfl rfl ?_
    refine go_tget (y := mX6_readCommand) (pc := 96) dX6_readCommand_96 fl_X6_27 rfl rfl (by decide) (by decide) (fun r96 => ?_)
    refine go_tias (y := mX6_readCommand) (pc := 99) (k := ((μ 4 5).toNat)) dX6_readCommand_99 rfl (by decide) (by decide) (by omega) (by omega) (by decide) (by omega) ?_
    refine go_return (y := mX6_readCommand) (pc := 100) dX6_readCommand_100 rfl ?_
    exact K ρ h9
  refine go_aload_n (y := mX6_readCommand) (pc := 0) dX6_readCommand_0 rfl rfl ?_
  refine go_callS1 (y := mX6_readCommand) (pc := 1) (y' := mX6_kindOfWord) (kc2 := 0) (ks2 := 0) dX6_readCommand_1 ml_X6_55 ok_X6_kindOfWord rfl (by decide) (Nat.le_of_ble_eq_true rfl) rfl (f_kindOfWord ht hr (fun v1 e1 b1 => ?_))
  refine go_istore (y := mX6_readCommand) (pc := 4) dX6_readCommand_4 (by decide) ?_
  refine go_iload (y := mX6_readCommand) (pc := 6) dX6_readCommand_6 rfl ?_
  refine go_iconst (y := mX6_readCommand) (pc := 8) dX6_readCommand_8 ?_
  refine go_icmp_ne (y := mX6_readCommand) (pc := 9) (tgt := 20) dX6_readCommand_9 (by decide) (by omega) (by omega) (fun h9 => ?_) (fun h9 => ?_)
  · skip
    refine go_aload_n (y := mX6_readCommand) (pc := 20) dX6_readCommand_20 rfl rfl ?_
    refine go_tget (y := mX6_readCommand) (pc := 21) dX6_readCommand_21 fl_X6_27 rfl rfl (by decide) (by decide) (fun r21 => ?_)
    refine go_bipush (y := mX6_readCommand) (pc := 24) dX6_readCommand_24 (by decide) ?_
    refine go_icmp_lt (y := mX6_readCommand) (pc := 26) (tgt := 37) dX6_readCommand_26 (by decide) (by omega) (by omega) (fun h26 => ?_) (fun h26 => ?_)
    · skip
      have hI1 : okI f L (cm1 (kwV f L s) μ) := okI_cm1 hI (by omega)
      refine go_aload_n (y := mX6_readCommand) (pc := 37) dX6_readCommand_37 rfl rfl ?_
      refine go_tget (y := mX6_readCommand) (pc := 38) dX6_readCommand_38 fl_X6_27 rfl rfl (by decide) (by decide) (fun r38 => ?_)
      refine go_top (b := (((μ 4 5).toNat : Nat) : Int)) ((by omega)) (fun t38 => ?_)
      refine go_istore (y := mX6_readCommand) (pc := 41) dX6_readCommand_41 (by decide) ?_
      refine go_aload_n (y := mX6_readCommand) (pc := 43) dX6_readCommand_43 rfl rfl ?_
      refine go_dup (y := mX6_readCommand) (pc := 44) dX6_readCommand_44 rfl ?_
      refine go_tget (y := mX6_readCommand) (pc := 45) dX6_readCommand_45 fl_X6_27 rfl rfl (by decide) (by decide) (fun r45 => ?_)
      refine go_iconst (y := mX6_readCommand) (pc := 48) dX6_readCommand_48 ?_
      refine go_iadd (y := mX6_readCommand) (pc := 49) dX6_readCommand_49 ?_
      refine go_tput (y := mX6_readCommand) (pc := 50) dX6_readCommand_50 fp_X6_27 rfl rfl (by decide) (by decide) (by omega) ?_
      refine go_aload_n (y := mX6_readCommand) (pc := 53) dX6_readCommand_53 rfl rfl ?_
      refine go_getR (y := mX6_readCommand) (pc := 54) dX6_readCommand_54 fl_X6_9 rfl rfl (by decide) ?_
      refine go_iload (y := mX6_readCommand) (pc := 57) dX6_readCommand_57 rfl ?_
      refine go_iload (y := mX6_readCommand) (pc := 59) dX6_readCommand_59 rfl ?_
      refine go_tias (y := mX6_readCommand) (pc := 61) (k := ((μ 4 5).toNat)) dX6_readCommand_61 rfl (by decide) (by decide) (by omega) (by omega) (by decide) (by omega) ?_
      refine go_aload_n (y := mX6_readCommand) (pc := 62) dX6_readCommand_62 rfl rfl ?_
      refine go_iconst (y := mX6_readCommand) (pc := 63) dX6_readCommand_63 ?_
      refine go_callV1 (y := mX6_readCommand) (pc := 64) (y' := mX9_take) (kc2 := 0) (ks2 := 0) dX6_readCommand_64 ml_X6_59 ok_X9_take (show shp 3 = _ from rfl) ⟨_, _, rfl⟩ (by decide) rfl (by decide) (Nat.le_of_ble_eq_true rfl) rfl (f_take (by omega) (by (repeat' refine okT_wr ?_ (by decide) (by decide)); exact ht) hr (fun ρ64 e64 => ?_))
      rw [mus_t rfl] at e64; refine go_mem (show _ = pr ρ64 (cm1 (kwV f L s) μ) by rw [e1]; rfl) ?_
      refine go_aload_n (y := mX6_readCommand) (pc := 67) dX6_readCommand_67 rfl rfl ?_
      refine go_aload_n (y := mX6_readCommand) (pc := 68) dX6_readCommand_68 rfl rfl ?_
      refine go_aload_n (y := mX6_readCommand) (pc := 69) dX6_readCommand_69 rfl rfl ?_
      refine go_iload (y := mX6_readCommand) (pc := 70) dX6_readCommand_70 rfl ?_
      refine go_callV3 (y := mX6_readCommand) (pc := 72) (y' := mX6_readOperands) (kc2 := 0) (ks2 := 0) dX6_readCommand_72 ml_X6_63 ok_X6_readOperands (show shp 4 = _ from rfl) ⟨_, _, rfl⟩ (by decide) ⟨rfl, rfl, rfl⟩ (by decide) (Nat.le_of_ble_eq_true rfl) rfl (f_readOperands (μ := cm1 (kwV f L s) μ) (k := kwV f L s) (by omega) (by unfold cm1; rw [wr_s]) (by omega) hI1.1 e64 hI1.2.1 (fun ρ72 e72 => ?_))
      refine go_iload (y := mX6_readCommand) (pc := 75) dX6_readCommand_75 rfl ?_
      refine go_bipush (y := mX6_readCommand) (pc := 77) dX6_readCommand_77 (by decide) ?_
      refine go_icmp_ne (y := mX6_readCommand) (pc := 79) (tgt := 89) dX6_readCommand_79 (by decide) (by omega) (by omega) (fun h79 => ?_) (fun h79 => ?_)
      · skip
        have em : (cm3 f L (bkm f L) 2 (s, μ)) = opr f L (kwV f L s) (μ 4 5).toNat (gon f L s) (cm1 (kwV f L s) μ) := by
          unfold cm3
          rw [if_neg (show ¬ kwV f L (s, μ).1 = 8 by show ¬ kwV f L s = 8; omega)]
          rfl
        have h := J89 (by omega) (by omega) v1 ρ72 (by rw [em]; exact e72)
        rw [em] at h
        exact h
      · skip
        refine go_aload_n (y := mX6_readCommand) (pc := 82) dX6_readCommand_82 rfl rfl ?_
        refine go_aload_n (y := mX6_readCommand) (pc := 83) dX6_readCommand_83 rfl rfl ?_
        refine go_aload_n (y := mX6_readCommand) (pc := 84) dX6_readCommand_84 rfl rfl ?_
        refine go_iload_n (y := mX6_readCommand) (pc := 85) dX6_readCommand_85 rfl rfl ?_
        refine go_callV3 (y := mX6_readCommand) (pc := 86) (y' := mX6_readBrackets) (kc2 := 0) (ks2 := 0) dX6_readCommand_86 ml_X6_66 ok_X6_readBrackets (show shp 4 = _ from rfl) ⟨_, _, rfl⟩ (by decide) ⟨rfl, rfl, rfl⟩ (by decide) (Nat.le_of_ble_eq_true rfl) rfl (f_readBrackets0 (s := (opr f L (kwV f L s) (μ 4 5).toNat (gon f L s) (cm1 (kwV f L s) μ)).1) (okI_opr hI1) e72 (fun ρ86 e86 => ?_))
        have em : (cm3 f L (bkm f L) 2 (s, μ)) = brS f L (bkm f L) 2 (opr f L (kwV f L s) (μ 4 5).toNat (gon f L s) (cm1 (kwV f L s) μ)) := by
          unfold cm3
          rw [if_pos (show kwV f L (s, μ).1 = 8 by show kwV f L s = 8; omega)]
          rfl
        have h := J89 (by omega) (by omega) v1 ρ86 (by rw [em]; exact e86)
        rw [em] at h
        exact h
    · skip
      refine go_aload_n (y := mX6_readCommand) (pc := 29) dX6_readCommand_29 rfl rfl ?_
      refine go_iconst (y := mX6_readCommand) (pc := 30) dX6_readCommand_30 ?_
      refine go_callV1 (y := mX6_readCommand) (pc := 31) (y' := mX9_take) (kc2 := 0) (ks2 := 0) dX6_readCommand_31 ml_X6_59 ok_X9_take (show shp 3 = _ from rfl) ⟨_, _, rfl⟩ (by decide) rfl (by decide) (Nat.le_of_ble_eq_true rfl) rfl (f_take (by omega) (by (repeat' refine okT_wr ?_ (by decide) (by decide)); exact ht) hr (fun ρ31 e31 => ?_))
      refine go_goto (y := mX6_readCommand) (pc := 34) (tgt := 100) dX6_readCommand_34 (by decide) ?_
      refine go_return (y := mX6_readCommand) (pc := 100) dX6_readCommand_100 rfl ?_
      rw [cmd_t (x := (s, μ)) (show kwV f L s ≠ -1 by omega) (show 30 ≤ μ 4 5 by omega)] at K
      exact K ρ31 e31
  · skip
    refine go_aload_n (y := mX6_readCommand) (pc := 12) dX6_readCommand_12 rfl rfl ?_
    refine go_iconst (y := mX6_readCommand) (pc := 13) dX6_readCommand_13 ?_
    refine go_callV1 (y := mX6_readCommand) (pc := 14) (y' := mX9_take) (kc2 := 0) (ks2 := 0) dX6_readCommand_14 ml_X6_59 ok_X9_take (show shp 3 = _ from rfl) ⟨_, _, rfl⟩ (by decide) rfl (by decide) (Nat.le_of_ble_eq_true rfl) rfl (f_take (by omega) (by (repeat' refine okT_wr ?_ (by decide) (by decide)); exact ht) hr (fun ρ14 e14 => ?_))
    refine go_goto (y := mX6_readCommand) (pc := 17) (tgt := 100) dX6_readCommand_17 (by decide) ?_
    refine go_return (y := mX6_readCommand) (pc := 100) dX6_readCommand_100 rfl ?_
    rw [cmd_n (x := (s, μ)) (show kwV f L s = -1 by omega)] at K
    exact K ρ14 e14
set_option maxRecDepth 8000 in
set_option maxHeartbeats 4000000 in
theorem f_readBlock0 (hI : okI f L μ) (hr : rok f L s ρ) {Q : Option Value → Mem → Prop} {X : String → Mem → Prop} (K : ∀ ρ', rok f L (bk0 f L (s, μ)).1 ρ' → Q none (pr ρ' (bk0 f L (s, μ)).2)) : mt 276 8 0 0 mX6_readBlock [.ref 4, .ref 3, .ref 10, .int (iI 2)] Q X (pr ρ μ) := by
  show go 276 8 0 0 mX6_readBlock Q X 0 [.ref 4, .ref 3, .ref 10, .int (iI 2), .null] [] _
  have loop : ∀ (n k : Nat) (x : Sta × Mem) (ρ : Nat → Int), k + n = 31 → okI f L x.2 → rok f L x.1 ρ → blk f L (bkm f L) 2 n x = bk0 f L (s, μ) → go 276 8 0 0 mX6_readBlock Q X 3 [.ref 4, .ref 3, .ref 10, .int (iI 2), .int (iI (k : Nat))] [] (pr ρ x.2) := by
    intro n
    induction n with
    | zero =>
      intro k x ρ hk hI hr he
      rw [blk] at he
      rw [← he] at K
      refine go_iload (y := mX6_readBlock) (pc := 3) dX6_readBlock_3 rfl ?_
      refine go_bipush (y := mX6_readBlock) (pc := 5) dX6_readBlock_5 (by decide) ?_
      refine go_icmp_gt (y := mX6_readBlock) (pc := 7) (tgt := 43) dX6_readBlock_7 (by decide) (by omega) (by omega) (fun h7 => ?_) (fun h7 => ?_)
      · skip
        refine go_return (y := mX6_readBlock) (pc := 43) dX6_readBlock_43 rfl ?_
        exact K ρ hr
      · skip
        exact absurd h7 (by omega)
    | succ n ih =>
      intro k x ρ hk hI hr he
      have ht := hI.1
      rw [blk] at he
      have J43 : ¬ (x.1.2.1 = 0 ∧ tkK f x.1.1 = 1) → go 276 8 0 0 mX6_readBlock Q X 43 [.ref 4, .ref 3, .ref 10, .int (iI 2), .int (iI (k : Nat))] [] (pr ρ x.2) := by
        intro g
        rw [if_neg g] at he
        rw [← he] at K
        refine go_return (y := mX6_readBlock) (pc := 43) dX6_readBlock_43 rfl ?_
        exact K ρ hr
      refine go_iload (y := mX6_readBlock) (pc := 3) dX6_readBlock_3 rfl ?_
      refine go_bipush (y := mX6_readBlock) (pc := 5) dX6_readBlock_5 (by decide) ?_
      refine go_icmp_gt (y := mX6_readBlock) (pc := 7) (tgt := 43) dX6_readBlock_7 (by decide) (by omega) (by omega) (fun h7 => ?_) (fun h7 => ?_)
      · skip
        exact absurd h7 (by omega)
      · skip
        refine go_aload_n (y := mX6_readBlock) (pc := 10) dX6_readBlock_10 rfl rfl ?_
        refine go_callV0 (y := mX6_readBlock) (pc := 11) (y' := mX9_isFine) (kc2 := 0) (ks2 := 0) dX6_readBlock_11 ml_X6_38 ok_X9_isFine (show shp 3 = _ from rfl) ⟨_, _, rfl⟩ (by decide) trivial (by decide) (Nat.le_of_ble_eq_true rfl) rfl (f_isFine (by (repeat' refine okT_wr ?_ (by decide) (by decide)); exact ht) hr (fun v11 e11 b11 => ?_))
        refine go_if_eq (y := mX6_readBlock) (pc := 14) (tgt := 43) dX6_readBlock_14 (by decide) (by omega) (fun h14 => ?_) (fun h14 => ?_)
        · skip
          exact J43 (fun w => bI_0 e11 h14 w.1)
        · skip
          refine go_aload_n (y := mX6_readBlock) (pc := 17) dX6_readBlock_17 rfl rfl ?_
          refine go_callV0 (y := mX6_readBlock) (pc := 18) (y' := mX9_isAtWord) (kc2 := 0) (ks2 := 0) dX6_readBlock_18 ml_X6_44 ok_X9_isAtWord (show shp 3 = _ from rfl) ⟨_, _, rfl⟩ (by decide) trivial (by decide) (Nat.le_of_ble_eq_true rfl) rfl (f_isAtWord (by (repeat' refine okT_wr ?_ (by decide) (by decide)); exact ht) hr (fun v18 e18 b18 => ?_))
          refine go_if_eq (y := mX6_readBlock) (pc := 21) (tgt := 43) dX6_readBlock_21 (by decide) (by omega) (fun h21 => ?_) (fun h21 => ?_)
          · skip
            exact J43 (fun w => bI_0 e18 h21 w.2)
          · skip
            rw [if_pos ⟨bI_1 e11 h14, bI_1 e18 h21⟩] at he
            refine go_aload_n (y := mX6_readBlock) (pc := 24) dX6_readBlock_24 rfl rfl ?_
            refine go_aload_n (y := mX6_readBlock) (pc := 25) dX6_readBlock_25 rfl rfl ?_
            refine go_aload_n (y := mX6_readBlock) (pc := 26) dX6_readBlock_26 rfl rfl ?_
            refine go_iload_n (y := mX6_readBlock) (pc := 27) dX6_readBlock_27 rfl rfl ?_
            refine go_callV3 (y := mX6_readBlock) (pc := 28) (y' := mX6_readCommand) (kc2 := 0) (ks2 := 0) dX6_readBlock_28 ml_X6_47 ok_X6_readCommand (show shp 4 = _ from rfl) ⟨_, _, rfl⟩ (by decide) ⟨rfl, rfl, rfl⟩ (by decide) (Nat.le_of_ble_eq_true rfl) rfl (f_readCommand0 (s := x.1) hI hr (fun ρ28 e28 => ?_))
            have ht := (pv_cmd (d := 2) pv_m x hI).1
            refine go_aload_n (y := mX6_readBlock) (pc := 31) dX6_readBlock_31 rfl rfl ?_
            refine go_bipush (y := mX6_readBlock) (pc := 32) dX6_readBlock_32 (by decide) ?_
            refine go_callV1 (y := mX6_readBlock) (pc := 34) (y' := mX9_takeSign) (kc2 := 0) (ks2 := 0) dX6_readBlock_34 ml_X6_51 ok_X9_takeSign (show shp 3 = _ from rfl) ⟨_, _, rfl⟩ (by decide) rfl (by decide) (Nat.le_of_ble_eq_true rfl) rfl (f_takeSign (by omega) (by (repeat' refine okT_wr ?_ (by decide) (by decide)); exact ht) e28 (fun ρ34 e34 => ?_))
            refine go_iinc (y := mX6_readBlock) (pc := 37) dX6_readBlock_37 rfl (by decide) ?_
            refine go_goto (y := mX6_readBlock) (pc := 40) (tgt := 3) dX6_readBlock_40 (by decide) ?_
            exact ih (k + 1) (cms f L (bkm f L) 2 x) ρ34 (by omega) (pv_cms pv_m x hI) e34 he
  refine go_iconst (y := mX6_readBlock) (pc := 0) dX6_readBlock_0 ?_
  refine go_istore (y := mX6_readBlock) (pc := 1) dX6_readBlock_1 (by decide) ?_
  exact loop 31 0 (s, μ) ρ (by omega) hI hr rfl
set_option maxRecDepth 8000 in
set_option maxHeartbeats 4000000 in
theorem f_readBrackets1 (hI : okI f L μ) (hr : rok f L s ρ) {Q : Option Value → Mem → Prop} {X : String → Mem → Prop} (K : ∀ ρ', rok f L (brS f L (bk0 f L) 1 (s, μ)).1 ρ' → Q none (pr ρ' (brS f L (bk0 f L) 1 (s, μ)).2)) : mt 276 9 0 0 mX6_readBrackets [.ref 4, .ref 3, .ref 10, .int (iI 1)] Q X (pr ρ μ) := by
  show go 276 9 0 0 mX6_readBrackets Q X 0 [.ref 4, .ref 3, .ref 10, .int (iI 1)] [] _
  have ht := hI.1
  unfold brS at K
  rw [if_neg (by decide)] at K
  obtain ⟨Y, eY⟩ : ∃ Y, Y = (bk0 f L) (gon f L (sgn f s 40), μ) := ⟨_, rfl⟩
  rw [show ((bk0 f L) (gon f L (sgn f (s, μ).1 40), (s, μ).2)) = Y from eY.symm] at K
  have hY : okI f L Y.2 := by
    rw [eY]
    exact pv_0 _ hI
  refine go_iload_n (y := mX6_readBrackets) (pc := 0) dX6_readBrackets_0 rfl rfl ?_
  refine go_iconst (y := mX6_readBrackets) (pc := 1) dX6_readBrackets_1 ?_
  refine go_icmp_lt (y := mX6_readBrackets) (pc := 2) (tgt := 24) dX6_readBrackets_2 (by decide) (by omega) (by omega) (fun h2 => ?_) (fun h2 => ?_)
  · skip
    refine go_aload_n (y := mX6_readBrackets) (pc := 24) dX6_readBrackets_24 rfl rfl ?_
    refine go_bipush (y := mX6_readBrackets) (pc := 25) dX6_readBrackets_25 (by decide) ?_
    refine go_callV1 (y := mX6_readBrackets) (pc := 27) (y' := mX9_takeSign) (kc2 := 0) (ks2 := 0) dX6_readBrackets_27 ml_X6_51 ok_X9_takeSign (show shp 3 = _ from rfl) ⟨_, _, rfl⟩ (by decide) rfl (by decide) (Nat.le_of_ble_eq_true rfl) rfl (f_takeSign (by omega) (by (repeat' refine okT_wr ?_ (by decide) (by decide)); exact ht) hr (fun ρ27 e27 => ?_))
    refine go_aload_n (y := mX6_readBrackets) (pc := 30) dX6_readBrackets_30 rfl rfl ?_
    refine go_aload_n (y := mX6_readBrackets) (pc := 31) dX6_readBrackets_31 rfl rfl ?_
    refine go_aload_n (y := mX6_readBrackets) (pc := 32) dX6_readBrackets_32 rfl rfl ?_
    refine go_iload_n (y := mX6_readBrackets) (pc := 33) dX6_readBrackets_33 rfl rfl ?_
    refine go_iconst (y := mX6_readBrackets) (pc := 34) dX6_readBrackets_34 ?_
    refine go_iadd (y := mX6_readBrackets) (pc := 35) dX6_readBrackets_35 ?_
    refine go_callV3 (y := mX6_readBrackets) (pc := 36) (y' := mX6_readBlock) (kc2 := 0) (ks2 := 0) dX6_readBrackets_36 ml_X6_121 ok_X6_readBlock (show shp 4 = _ from rfl) ⟨_, _, rfl⟩ (by decide) ⟨rfl, rfl, rfl⟩ (by decide) (Nat.le_of_ble_eq_true rfl) rfl (f_readBlock0 (s := gon f L (sgn f s 40)) (μ := μ) hI e27 (fun ρ36 e36 => ?_))
    rw [← eY] at e36 ⊢; have ht := hY.1
    refine go_aload_n (y := mX6_readBrackets) (pc := 39) dX6_readBrackets_39 rfl rfl ?_
    refine go_bipush (y := mX6_readBrackets) (pc := 40) dX6_readBrackets_40 (by decide) ?_
    refine go_callV1 (y := mX6_readBrackets) (pc := 42) (y' := mX9_takeSign) (kc2 := 0) (ks2 := 0) dX6_readBrackets_42 ml_X6_51 ok_X9_takeSign (show shp 3 = _ from rfl) ⟨_, _, rfl⟩ (by decide) rfl (by decide) (Nat.le_of_ble_eq_true rfl) rfl (f_takeSign (by omega) (by (repeat' refine okT_wr ?_ (by decide) (by decide)); exact ht) e36 (fun ρ42 e42 => ?_))
    refine go_return (y := mX6_readBrackets) (pc := 45) dX6_readBrackets_45 rfl ?_
    exact K ρ42 e42
  · skip
    exact absurd h2 (by decide)
set_option maxRecDepth 8000 in
set_option maxHeartbeats 4000000 in
theorem f_readCommand1 (hI : okI f L μ) (hr : rok f L s ρ) {Q : Option Value → Mem → Prop} {X : String → Mem → Prop} (K : ∀ ρ', rok f L (cmd f L (bk0 f L) 1 (s, μ)).1 ρ' → Q none (pr ρ' (cmd f L (bk0 f L) 1 (s, μ)).2)) : mt 276 10 0 0 mX6_readCommand [.ref 4, .ref 3, .ref 10, .int (iI 1)] Q X (pr ρ μ) := by
  show go 276 10 0 0 mX6_readCommand Q X 0 [.ref 4, .ref 3, .ref 10, .int (iI 1), .null, .null] [] _
  have ht := hI.1
  have hc := hI.2.2
  have J89 : kwV f L s ≠ -1 → μ 4 5 < 30 → ∀ (v : Int) (ρ : Nat → Int), rok f L (cm3 f L (bk0 f L) 1 (s, μ)).1 ρ → go 276 10 0 0 mX6_readCommand Q X 89 [.ref 4, .ref 3, .ref 10, .int (iI 1), .int (iI v), .int (iI ((μ 4 5).toNat : Nat))] [] (pr ρ (cm3 f L (bk0 f L) 1 (s, μ)).2) := by
    intro g hl v ρ h9
    have h3 : okI f L (cm3 f L (bk0 f L) 1 (s, μ)).2 := pv_cm3 pv_0 hI hl
    have hc3 := h3.2.2
    rw [cmd_y (x := (s, μ)) g hl] at K
    refine go_aload_n (y := mX6_readCommand) (pc := 89) dX6_readCommand_89 rfl rfl ?_
    refine go_getR (y := mX6_readCommand) (pc := 90) dX6_readCommand_90 fl_X6_24 rfl rfl (by decide) ?_
    refine go_iload (y := mX6_readCommand) (pc := 93) dX6_readCommand_93 rfl ?_
    refine go_aload_n (y := mX6_readCommand) (pc := 95) dX6_readCommand_95 rfl rfl ?_
    refine go_tget (y := mX6_readCommand) (pc := 96) dX6_readCommand_96 fl_X6_27 rfl rfl (by decide) (by decide) (fun r96 => ?_)
    refine go_tias (y := mX6_readCommand) (pc := 99) (k := ((μ 4 5).toNat)) dX6_readCommand_99 rfl (by decide) (by decide) (by omega) (by omega) (by decide) (by omega) ?_
    refine go_return (y := mX6_readCommand) (pc := 100) dX6_readCommand_100 rfl ?_
    exact K ρ h9
  refine go_aload_n (y := mX6_readCommand) (pc := 0) dX6_readCommand_0 rfl rfl ?_
  refine go_callS1 (y := mX6_readCommand) (pc := 1) (y' := mX6_kindOfWord) (kc2 := 0) (ks2 := 0) dX6_readCommand_1 ml_X6_55 ok_X6_kindOfWord rfl (by decide) (Nat.le_of_ble_eq_true rfl) rfl (f_kindOfWord ht hr (fun v1 e1 b1 => ?_))
  refine go_istore (y := mX6_readCommand) (pc := 4) dX6_readCommand_4 (by decide) ?_
  refine go_iload (y := mX6_readCommand) (pc := 6) dX6_readCommand_6 rfl ?_
  refine go_iconst (y := mX6_readCommand) (pc := 8) dX6_readCommand_8 ?_
  refine go_icmp_ne (y := mX6_readCommand) (pc := 9) (tgt := 20) dX6_readCommand_9 (by decide) (by omega) (by omega) (fun h9 => ?_) (fun h9 => ?_)
  · skip
    refine go_aload_n (y := mX6_readCommand) (pc := 20) dX6_readCommand_20 rfl rfl ?_
    refine go_tget (y := mX6_readCommand) (pc := 21) dX6_readCommand_21 fl_X6_27 rfl rfl (by decide) (by decide) (fun r21 => ?_)
    refine go_bipush (y := mX6_readCommand) (pc := 24) dX6_readCommand_24 (by decide) ?_
    refine go_icmp_lt (y := mX6_readCommand) (pc := 26) (tgt := 37) dX6_readCommand_26 (by decide) (by omega) (by omega) (fun h26 => ?_) (fun h26 => ?_)
    · skip
      have hI1 : okI f L (cm1 (kwV f L s) μ) := okI_cm1 hI (by omega)
      refine go_aload_n (y := mX6_readCommand) (pc := 37) dX6_readCommand_37 rfl rfl ?_
      refine go_tget (y := mX6_readCommand) (pc := 38) dX6_readCommand_38 fl_X6_27 rfl rfl (by decide) (by decide) (fun r38 => ?_)
      refine go_top (b := (((μ 4 5).toNat : Nat) : Int)) ((by omega)) (fun t38 => ?_)
      refine go_istore (y := mX6_readCommand) (pc := 41) dX6_readCommand_41 (by decide) ?_
      refine go_aload_n (y := mX6_readCommand) (pc := 43) dX6_readCommand_43 rfl rfl ?_
      refine go_dup (y := mX6_readCommand) (pc := 44) dX6_readCommand_44 rfl ?_
      refine go_tget (y := mX6_readCommand) (pc := 45) dX6_readCommand_45 fl_X6_27 rfl rfl (by decide) (by decide) (fun r45 => ?_)
      refine go_iconst (y := mX6_readCommand) (pc := 48) dX6_readCommand_48 ?_
      refine go_iadd (y := mX6_readCommand) (pc := 49) dX6_readCommand_49 ?_
      refine go_tput (y := mX6_readCommand) (pc := 50) dX6_readCommand_50 fp_X6_27 rfl rfl (by decide) (by decide) (by omega) ?_
      refine go_aload_n (y := mX6_readCommand) (pc := 53) dX6_readCommand_53 rfl rfl ?_
      refine go_getR (y := mX6_readCommand) (pc := 54) dX6_readCommand_54 fl_X6_9 rfl rfl (by decide) ?_
      refine go_iload (y := mX6_readCommand) (pc := 57) dX6_readCommand_57 rfl ?_
      refine go_iload (y := mX6_readCommand) (pc := 59) dX6_readCommand_59 rfl ?_
      refine go_tias (y := mX6_readCommand) (pc := 61) (k := ((μ 4 5).toNat)) dX6_readCommand_61 rfl (by decide) (by decide) (by omega) (by omega) (by decide) (by omega) ?_
      refine go_aload_n (y := mX6_readCommand) (pc := 62) dX6_readCommand_62 rfl rfl ?_
      refine go_iconst (y := mX6_readCommand) (pc := 63) dX6_readCommand_63 ?_
      refine go_callV1 (y := mX6_readCommand) (pc := 64) (y' := mX9_take) (kc2 := 0) (ks2 := 0) dX6_readCommand_64 ml_X6_59 ok_X9_take (show shp 3 = _ from rfl) ⟨_, _, rfl⟩ (by decide) rfl (by decide) (Nat.le_of_ble_eq_true rfl) rfl (f_take (by omega) (by (repeat' refine okT_wr ?_ (by decide) (by decide)); exact ht) hr (fun ρ64 e64 => ?_))
      rw [mus_t rfl] at e64; refine go_mem (show _ = pr ρ64 (cm1 (kwV f L s) μ) by rw [e1]; rfl) ?_
      refine go_aload_n (y := mX6_readCommand) (pc := 67) dX6_readCommand_67 rfl rfl ?_
      refine go_aload_n (y := mX6_readCommand) (pc := 68) dX6_readCommand_68 rfl rfl ?_
      refine go_aload_n (y := mX6_readCommand) (pc := 69) dX6_readCommand_69 rfl rfl ?_
      refine go_iload (y := mX6_readCommand) (pc := 70) dX6_readCommand_70 rfl ?_
      refine go_callV3 (y := mX6_readCommand) (pc := 72) (y' := mX6_readOperands) (kc2 := 0) (ks2 := 0) dX6_readCommand_72 ml_X6_63 ok_X6_readOperands (show shp 4 = _ from rfl) ⟨_, _, rfl⟩ (by decide) ⟨rfl, rfl, rfl⟩ (by decide) (Nat.le_of_ble_eq_true rfl) rfl (f_readOperands (μ := cm1 (kwV f L s) μ) (k := kwV f L s) (by omega) (by unfold cm1; rw [wr_s]) (by omega) hI1.1 e64 hI1.2.1 (fun ρ72 e72 => ?_))
      refine go_iload (y := mX6_readCommand) (pc := 75) dX6_readCommand_75 rfl ?_
      refine go_bipush (y := mX6_readCommand) (pc := 77) dX6_readCommand_77 (by decide) ?_
      refine go_icmp_ne (y := mX6_readCommand) (pc := 79) (tgt := 89) dX6_readCommand_79 (by decide) (by omega) (by omega) (fun h79 => ?_) (fun h79 => ?_)
      · skip
        have em : (cm3 f L (bk0 f L) 1 (s, μ)) = opr f L (kwV f L s) (μ 4 5).toNat (gon f L s) (cm1 (kwV f L s) μ) := by
          unfold cm3
          rw [if_neg (show ¬ kwV f L (s, μ).1 = 8 by show ¬ kwV f L s = 8; omega)]
          rfl
        have h := J89 (by omega) (by omega) v1 ρ72 (by rw [em]; exact e72)
        rw [em] at h
        exact h
      · skip
        refine go_aload_n (y := mX6_readCommand) (pc := 82) dX6_readCommand_82 rfl rfl ?_
        refine go_aload_n (y := mX6_readCommand) (pc := 83) dX6_readCommand_83 rfl rfl ?_
        refine go_aload_n (y := mX6_readCommand) (pc := 84) dX6_readCommand_84 rfl rfl ?_
        refine go_iload_n (y := mX6_readCommand) (pc := 85) dX6_readCommand_85 rfl rfl ?_
        refine go_callV3 (y := mX6_readCommand) (pc := 86) (y' := mX6_readBrackets) (kc2 := 0) (ks2 := 0) dX6_readCommand_86 ml_X6_66 ok_X6_readBrackets (show shp 4 = _ from rfl) ⟨_, _, rfl⟩ (by decide) ⟨rfl, rfl, rfl⟩ (by decide) (Nat.le_of_ble_eq_true rfl) rfl (f_readBrackets1 (s := (opr f L (kwV f L s) (μ 4 5).toNat (gon f L s) (cm1 (kwV f L s) μ)).1) (okI_opr hI1) e72 (fun ρ86 e86 => ?_))
        have em : (cm3 f L (bk0 f L) 1 (s, μ)) = brS f L (bk0 f L) 1 (opr f L (kwV f L s) (μ 4 5).toNat (gon f L s) (cm1 (kwV f L s) μ)) := by
          unfold cm3
          rw [if_pos (show kwV f L (s, μ).1 = 8 by show kwV f L s = 8; omega)]
          rfl
        have h := J89 (by omega) (by omega) v1 ρ86 (by rw [em]; exact e86)
        rw [em] at h
        exact h
    · skip
      refine go_aload_n (y := mX6_readCommand) (pc := 29) dX6_readCommand_29 rfl rfl ?_
      refine go_iconst (y := mX6_readCommand) (pc := 30) dX6_readCommand_30 ?_
      refine go_callV1 (y := mX6_readCommand) (pc := 31) (y' := mX9_take) (kc2 := 0) (ks2 := 0) dX6_readCommand_31 ml_X6_59 ok_X9_take (show shp 3 = _ from rfl) ⟨_, _, rfl⟩ (by decide) rfl (by decide) (Nat.le_of_ble_eq_true rfl) rfl (f_take (by omega) (by (repeat' refine okT_wr ?_ (by decide) (by decide)); exact ht) hr (fun ρ31 e31 => ?_))
      refine go_goto (y := mX6_readCommand) (pc := 34) (tgt := 100) dX6_readCommand_34 (by decide) ?_
      refine go_return (y := mX6_readCommand) (pc := 100) dX6_readCommand_100 rfl ?_
      rw [cmd_t (x := (s, μ)) (show kwV f L s ≠ -1 by omega) (show 30 ≤ μ 4 5 by omega)] at K
      exact K ρ31 e31
  · skip
    refine go_aload_n (y := mX6_readCommand) (pc := 12) dX6_readCommand_12 rfl rfl ?_
    refine go_iconst (y := mX6_readCommand) (pc := 13) dX6_readCommand_13 ?_
    refine go_callV1 (y := mX6_readCommand) (pc := 14) (y' := mX9_take) (kc2 := 0) (ks2 := 0) dX6_readCommand_14 ml_X6_59 ok_X9_take (show shp 3 = _ from rfl) ⟨_, _, rfl⟩ (by decide) rfl (by decide) (Nat.le_of_ble_eq_true rfl) rfl (f_take (by omega) (by (repeat' refine okT_wr ?_ (by decide) (by decide)); exact ht) hr (fun ρ14 e14 => ?_))
    refine go_goto (y := mX6_readCommand) (pc := 17) (tgt := 100) dX6_readCommand_17 (by decide) ?_
    refine go_return (y := mX6_readCommand) (pc := 100) dX6_readCommand_100 rfl ?_
    rw [cmd_n (x := (s, μ)) (show kwV f L s = -1 by omega)] at K
    exact K ρ14 e14
set_option maxRecDepth 8000 in
set_option maxHeartbeats 4000000 in
theorem f_readBlock1 (hI : okI f L μ) (hr : rok f L s ρ) {Q : Option Value → Mem → Prop} {X : String → Mem → Prop} (K : ∀ ρ', rok f L (bk1 f L (s, μ)).1 ρ' → Q none (pr ρ' (bk1 f L (s, μ)).2)) : mt 276 11 0 0 mX6_readBlock [.ref 4, .ref 3, .ref 10, .int (iI 1)] Q X (pr ρ μ) := by
  show go 276 11 0 0 mX6_readBlock Q X 0 [.ref 4, .ref 3, .ref 10, .int (iI 1), .null] [] _
  have loop : ∀ (n k : Nat) (x : Sta × Mem) (ρ : Nat → Int), k + n = 31 → okI f L x.2 → rok f L x.1 ρ → blk f L (bk0 f L) 1 n x = bk1 f L (s, μ) → go 276 11 0 0 mX6_readBlock Q X 3 [.ref 4, .ref 3, .ref 10, .int (iI 1), .int (iI (k : Nat))] [] (pr ρ x.2) := by
    intro n
    induction n with
    | zero =>
      intro k x ρ hk hI hr he
      rw [blk] at he
      rw [← he] at K
      refine go_iload (y := mX6_readBlock) (pc := 3) dX6_readBlock_3 rfl ?_
      refine go_bipush (y := mX6_readBlock) (pc := 5) dX6_readBlock_5 (by decide) ?_
      refine go_icmp_gt (y := mX6_readBlock) (pc := 7) (tgt := 43) dX6_readBlock_7 (by decide) (by omega) (by omega) (fun h7 => ?_) (fun h7 => ?_)
      · skip
        refine go_return (y := mX6_readBlock) (pc := 43) dX6_readBlock_43 rfl ?_
        exact K ρ hr
      · skip
        exact absurd h7 (by omega)
    | succ n ih =>
      intro k x ρ hk hI hr he
      have ht := hI.1
      rw [blk] at he
      have J43 : ¬ (x.1.2.1 = 0 ∧ tkK f x.1.1 = 1) → go 276 11 0 0 mX6_readBlock Q X 43 [.ref 4, .ref 3, .ref 10, .int (iI 1), .int (iI (k : Nat))] [] (pr ρ x.2) := by
        intro g
        rw [if_neg g] at he
        rw [← he] at K
        refine go_return (y := mX6_readBlock) (pc := 43) dX6_readBlock_43 rfl ?_
        exact K ρ hr
      refine go_iload (y := mX6_readBlock) (pc := 3) dX6_readBlock_3 rfl ?_
      refine go_bipush (y := mX6_readBlock) (pc := 5) dX6_readBlock_5 (by decide) ?_
      refine go_icmp_gt (y := mX6_readBlock) (pc := 7) (tgt := 43) dX6_readBlock_7 (by decide) (by omega) (by omega) (fun h7 => ?_) (fun h7 => ?_)
      · skip
        exact absurd h7 (by omega)
      · skip
        refine go_aload_n (y := mX6_readBlock) (pc := 10) dX6_readBlock_10 rfl rfl ?_
        refine go_callV0 (y := mX6_readBlock) (pc := 11) (y' := mX9_isFine) (kc2 := 0) (ks2 := 0) dX6_readBlock_11 ml_X6_38 ok_X9_isFine (show shp 3 = _ from rfl) ⟨_, _, rfl⟩ (by decide) trivial (by decide) (Nat.le_of_ble_eq_true rfl) rfl (f_isFine (by (repeat' refine okT_wr ?_ (by decide) (by decide)); exact ht) hr (fun v11 e11 b11 => ?_))
        refine go_if_eq (y := mX6_readBlock) (pc := 14) (tgt := 43) dX6_readBlock_14 (by decide) (by omega) (fun h14 => ?_) (fun h14 => ?_)
        · skip
          exact J43 (fun w => bI_0 e11 h14 w.1)
        · skip
          refine go_aload_n (y := mX6_readBlock) (pc := 17) dX6_readBlock_17 rfl rfl ?_
          refine go_callV0 (y := mX6_readBlock) (pc := 18) (y' := mX9_isAtWord) (kc2 := 0) (ks2 := 0) dX6_readBlock_18 ml_X6_44 ok_X9_isAtWord (show shp 3 = _ from rfl) ⟨_, _, rfl⟩ (by decide) trivial (by decide) (Nat.le_of_ble_eq_true rfl) rfl (f_isAtWord (by (repeat' refine okT_wr ?_ (by decide) (by decide)); exact ht) hr (fun v18 e18 b18 => ?_))
          refine go_if_eq (y := mX6_readBlock) (pc := 21) (tgt := 43) dX6_readBlock_21 (by decide) (by omega) (fun h21 => ?_) (fun h21 => ?_)
          · skip
            exact J43 (fun w => bI_0 e18 h21 w.2)
          · skip
            rw [if_pos ⟨bI_1 e11 h14, bI_1 e18 h21⟩] at he
            refine go_aload_n (y := mX6_readBlock) (pc := 24) dX6_readBlock_24 rfl rfl ?_
            refine go_aload_n (y := mX6_readBlock) (pc := 25) dX6_readBlock_25 rfl rfl ?_
            refine go_aload_n (y := mX6_readBlock) (pc := 26) dX6_readBlock_26 rfl rfl ?_
            refine go_iload_n (y := mX6_readBlock) (pc := 27) dX6_readBlock_27 rfl rfl ?_
            refine go_callV3 (y := mX6_readBlock) (pc := 28) (y' := mX6_readCommand) (kc2 := 0) (ks2 := 0) dX6_readBlock_28 ml_X6_47 ok_X6_readCommand (show shp 4 = _ from rfl) ⟨_, _, rfl⟩ (by decide) ⟨rfl, rfl, rfl⟩ (by decide) (Nat.le_of_ble_eq_true rfl) rfl (f_readCommand1 (s := x.1) hI hr (fun ρ28 e28 => ?_))
            have ht := (pv_cmd (d := 1) pv_0 x hI).1
            refine go_aload_n (y := mX6_readBlock) (pc := 31) dX6_readBlock_31 rfl rfl ?_
            refine go_bipush (y := mX6_readBlock) (pc := 32) dX6_readBlock_32 (by decide) ?_
            refine go_callV1 (y := mX6_readBlock) (pc := 34) (y' := mX9_takeSign) (kc2 := 0) (ks2 := 0) dX6_readBlock_34 ml_X6_51 ok_X9_takeSign (show shp 3 = _ from rfl) ⟨_, _, rfl⟩ (by decide) rfl (by decide) (Nat.le_of_ble_eq_true rfl) rfl (f_takeSign (by omega) (by (repeat' refine okT_wr ?_ (by decide) (by decide)); exact ht) e28 (fun ρ34 e34 => ?_))
            refine go_iinc (y := mX6_readBlock) (pc := 37) dX6_readBlock_37 rfl (by decide) ?_
            refine go_goto (y := mX6_readBlock) (pc := 40) (tgt := 3) dX6_readBlock_40 (by decide) ?_
            exact ih (k + 1) (cms f L (bk0 f L) 1 x) ρ34 (by omega) (pv_cms pv_0 x hI) e34 he
  refine go_iconst (y := mX6_readBlock) (pc := 0) dX6_readBlock_0 ?_
  refine go_istore (y := mX6_readBlock) (pc := 1) dX6_readBlock_1 (by decide) ?_
  exact loop 31 0 (s, μ) ρ (by omega) hI hr rfl
set_option maxRecDepth 8000 in
set_option maxHeartbeats 4000000 in
theorem f_readBrackets2 (hI : okI f L μ) (hr : rok f L s ρ) {Q : Option Value → Mem → Prop} {X : String → Mem → Prop} (K : ∀ ρ', rok f L (brS f L (bk1 f L) 0 (s, μ)).1 ρ' → Q none (pr ρ' (brS f L (bk1 f L) 0 (s, μ)).2)) : mt 276 12 0 0 mX6_readBrackets [.ref 4, .ref 3, .ref 10, .int (iI 0)] Q X (pr ρ μ) := by
  show go 276 12 0 0 mX6_readBrackets Q X 0 [.ref 4, .ref 3, .ref 10, .int (iI 0)] [] _
  have ht := hI.1
  unfold brS at K
  rw [if_neg (by decide)] at K
  obtain ⟨Y, eY⟩ : ∃ Y, Y = (bk1 f L) (gon f L (sgn f s 40), μ) := ⟨_, rfl⟩
  rw [show ((bk1 f L) (gon f L (sgn f (s, μ).1 40), (s, μ).2)) = Y from eY.symm] at K
  have hY : okI f L Y.2 := by
    rw [eY]
    exact pv_1 _ hI
  refine go_iload_n (y := mX6_readBrackets) (pc := 0) dX6_readBrackets_0 rfl rfl ?_
  refine go_iconst (y := mX6_readBrackets) (pc := 1) dX6_readBrackets_1 ?_
  refine go_icmp_lt (y := mX6_readBrackets) (pc := 2) (tgt := 24) dX6_readBrackets_2 (by decide) (by omega) (by omega) (fun h2 => ?_) (fun h2 => ?_)
  · skip
    refine go_aload_n (y := mX6_readBrackets) (pc := 24) dX6_readBrackets_24 rfl rfl ?_
    refine go_bipush (y := mX6_readBrackets) (pc := 25) dX6_readBrackets_25 (by decide) ?_
    refine go_callV1 (y := mX6_readBrackets) (pc := 27) (y' := mX9_takeSign) (kc2 := 0) (ks2 := 0) dX6_readBrackets_27 ml_X6_51 ok_X9_takeSign (show shp 3 = _ from rfl) ⟨_, _, rfl⟩ (by decide) rfl (by decide) (Nat.le_of_ble_eq_true rfl) rfl (f_takeSign (by omega) (by (repeat' refine okT_wr ?_ (by decide) (by decide)); exact ht) hr (fun ρ27 e27 => ?_))
    refine go_aload_n (y := mX6_readBrackets) (pc := 30) dX6_readBrackets_30 rfl rfl ?_
    refine go_aload_n (y := mX6_readBrackets) (pc := 31) dX6_readBrackets_31 rfl rfl ?_
    refine go_aload_n (y := mX6_readBrackets) (pc := 32) dX6_readBrackets_32 rfl rfl ?_
    refine go_iload_n (y := mX6_readBrackets) (pc := 33) dX6_readBrackets_33 rfl rfl ?_
    refine go_iconst (y := mX6_readBrackets) (pc := 34) dX6_readBrackets_34 ?_
    refine go_iadd (y := mX6_readBrackets) (pc := 35) dX6_readBrackets_35 ?_
    refine go_callV3 (y := mX6_readBrackets) (pc := 36) (y' := mX6_readBlock) (kc2 := 0) (ks2 := 0) dX6_readBrackets_36 ml_X6_121 ok_X6_readBlock (show shp 4 = _ from rfl) ⟨_, _, rfl⟩ (by decide) ⟨rfl, rfl, rfl⟩ (by decide) (Nat.le_of_ble_eq_true rfl) rfl (f_readBlock1 (s := gon f L (sgn f s 40)) (μ := μ) hI e27 (fun ρ36 e36 => ?_))
    rw [← eY] at e36 ⊢; have ht := hY.1
    refine go_aload_n (y := mX6_readBrackets) (pc := 39) dX6_readBrackets_39 rfl rfl ?_
    refine go_bipush (y := mX6_readBrackets) (pc := 40) dX6_readBrackets_40 (by decide) ?_
    refine go_callV1 (y := mX6_readBrackets) (pc := 42) (y' := mX9_takeSign) (kc2 := 0) (ks2 := 0) dX6_readBrackets_42 ml_X6_51 ok_X9_takeSign (show shp 3 = _ from rfl) ⟨_, _, rfl⟩ (by decide) rfl (by decide) (Nat.le_of_ble_eq_true rfl) rfl (f_takeSign (by omega) (by (repeat' refine okT_wr ?_ (by decide) (by decide)); exact ht) e36 (fun ρ42 e42 => ?_))
    refine go_return (y := mX6_readBrackets) (pc := 45) dX6_readBrackets_45 rfl ?_
    exact K ρ42 e42
  · skip
    exact absurd h2 (by decide)
set_option maxRecDepth 8000 in
set_option maxHeartbeats 4000000 in
theorem f_readCommand2 (hI : okI f L μ) (hr : rok f L s ρ) {Q : Option Value → Mem → Prop} {X : String → Mem → Prop} (K : ∀ ρ', rok f L (cmd f L (bk1 f L) 0 (s, μ)).1 ρ' → Q none (pr ρ' (cmd f L (bk1 f L) 0 (s, μ)).2)) : mt 276 13 0 0 mX6_readCommand [.ref 4, .ref 3, .ref 10, .int (iI 0)] Q X (pr ρ μ) := by
  show go 276 13 0 0 mX6_readCommand Q X 0 [.ref 4, .ref 3, .ref 10, .int (iI 0), .null, .null] [] _
  have ht := hI.1
  have hc := hI.2.2
  have J89 : kwV f L s ≠ -1 → μ 4 5 < 30 → ∀ (v : Int) (ρ : Nat → Int), rok f L (cm3 f L (bk1 f L) 0 (s, μ)).1 ρ → go 276 13 0 0 mX6_readCommand Q X 89 [.ref 4, .ref 3, .ref 10, .int (iI 0), .int (iI v), .int (iI ((μ 4 5).toNat : Nat))] [] (pr ρ (cm3 f L (bk1 f L) 0 (s, μ)).2) := by
    intro g hl v ρ h9
    have h3 : okI f L (cm3 f L (bk1 f L) 0 (s, μ)).2 := pv_cm3 pv_1 hI hl
    have hc3 := h3.2.2
    rw [cmd_y (x := (s, μ)) g hl] at K
    refine go_aload_n (y := mX6_readCommand) (pc := 89) dX6_readCommand_89 rfl rfl ?_
    refine go_getR (y := mX6_readCommand) (pc := 90) dX6_readCommand_90 fl_X6_24 rfl rfl (by decide) ?_
    refine go_iload (y := mX6_readCommand) (pc := 93) dX6_readCommand_93 rfl ?_
    refine go_aload_n (y := mX6_readCommand) (pc := 95) dX6_readCommand_95 rfl rfl ?_
    refine go_tget (y := mX6_readCommand) (pc := 96) dX6_readCommand_96 fl_X6_27 rfl rfl (by decide) (by decide) (fun r96 => ?_)
    refine go_tias (y := mX6_readCommand) (pc := 99) (k := ((μ 4 5).toNat)) dX6_readCommand_99 rfl (by decide) (by decide) (by omega) (by omega) (by decide) (by omega) ?_
    refine go_return (y := mX6_readCommand) (pc := 100) dX6_readCommand_100 rfl ?_
    exact K ρ h9
  refine go_aload_n (y := mX6_readCommand) (pc := 0) dX6_readCommand_0 rfl rfl ?_
  refine go_callS1 (y := mX6_readCommand) (pc := 1) (y' := mX6_kindOfWord) (kc2 := 0) (ks2 := 0) dX6_readCommand_1 ml_X6_55 ok_X6_kindOfWord rfl (by decide) (Nat.le_of_ble_eq_true rfl) rfl (f_kindOfWord ht hr (fun v1 e1 b1 => ?_))
  refine go_istore (y := mX6_readCommand) (pc := 4) dX6_readCommand_4 (by decide) ?_
  refine go_iload (y := mX6_readCommand) (pc := 6) dX6_readCommand_6 rfl ?_
  refine go_iconst (y := mX6_readCommand) (pc := 8) dX6_readCommand_8 ?_
  refine go_icmp_ne (y := mX6_readCommand) (pc := 9) (tgt := 20) dX6_readCommand_9 (by decide) (by omega) (by omega) (fun h9 => ?_) (fun h9 => ?_)
  · skip
    refine go_aload_n (y := mX6_readCommand) (pc := 20) dX6_readCommand_20 rfl rfl ?_
    refine go_tget (y := mX6_readCommand) (pc := 21) dX6_readCommand_21 fl_X6_27 rfl rfl (by decide) (by decide) (fun r21 => ?_)
    refine go_bipush (y := mX6_readCommand) (pc := 24) dX6_readCommand_24 (by decide) ?_
    refine go_icmp_lt (y := mX6_readCommand) (pc := 26) (tgt := 37) dX6_readCommand_26 (by decide) (by omega) (by omega) (fun h26 => ?_) (fun h26 => ?_)
    · skip
      have hI1 : okI f L (cm1 (kwV f L s) μ) := okI_cm1 hI (by omega)
      refine go_aload_n (y := mX6_readCommand) (pc := 37) dX6_readCommand_37 rfl rfl ?_
      refine go_tget (y := mX6_readCommand) (pc := 38) dX6_readCommand_38 fl_X6_27 rfl rfl (by decide) (by decide) (fun r38 => ?_)
      refine go_top (b := (((μ 4 5).toNat : Nat) : Int)) ((by omega)) (fun t38 => ?_)
      refine go_istore (y := mX6_readCommand) (pc := 41) dX6_readCommand_41 (by decide) ?_
      refine go_aload_n (y := mX6_readCommand) (pc := 43) dX6_readCommand_43 rfl rfl ?_
      refine go_dup (y := mX6_readCommand) (pc := 44) dX6_readCommand_44 rfl ?_
      refine go_tget (y := mX6_readCommand) (pc := 45) dX6_readCommand_45 fl_X6_27 rfl rfl (by decide) (by decide) (fun r45 => ?_)
      refine go_iconst (y := mX6_readCommand) (pc := 48) dX6_readCommand_48 ?_
      refine go_iadd (y := mX6_readCommand) (pc := 49) dX6_readCommand_49 ?_
      refine go_tput (y := mX6_readCommand) (pc := 50) dX6_readCommand_50 fp_X6_27 rfl rfl (by decide) (by decide) (by omega) ?_
      refine go_aload_n (y := mX6_readCommand) (pc := 53) dX6_readCommand_53 rfl rfl ?_
      refine go_getR (y := mX6_readCommand) (pc := 54) dX6_readCommand_54 fl_X6_9 rfl rfl (by decide) ?_
      refine go_iload (y := mX6_readCommand) (pc := 57) dX6_readCommand_57 rfl ?_
      refine go_iload (y := mX6_readCommand) (pc := 59) dX6_readCommand_59 rfl ?_
      refine go_tias (y := mX6_readCommand) (pc := 61) (k := ((μ 4 5).toNat)) dX6_readCommand_61 rfl (by decide) (by decide) (by omega) (by omega) (by decide) (by omega) ?_
      refine go_aload_n (y := mX6_readCommand) (pc := 62) dX6_readCommand_62 rfl rfl ?_
      refine go_iconst (y := mX6_readCommand) (pc := 63) dX6_readCommand_63 ?_
      refine go_callV1 (y := mX6_readCommand) (pc := 64) (y' := mX9_take) (kc2 := 0) (ks2 := 0) dX6_readCommand_64 ml_X6_59 ok_X9_take (show shp 3 = _ from rfl) ⟨_, _, rfl⟩ (by decide) rfl (by decide) (Nat.le_of_ble_eq_true rfl) rfl (f_take (by omega) (by (repeat' refine okT_wr ?_ (by decide) (by decide)); exact ht) hr (fun ρ64 e64 => ?_))
      rw [mus_t rfl] at e64; refine go_mem (show _ = pr ρ64 (cm1 (kwV f L s) μ) by rw [e1]; rfl) ?_
      refine go_aload_n (y := mX6_readCommand) (pc := 67) dX6_readCommand_67 rfl rfl ?_
      refine go_aload_n (y := mX6_readCommand) (pc := 68) dX6_readCommand_68 rfl rfl ?_
      refine go_aload_n (y := mX6_readCommand) (pc := 69) dX6_readCommand_69 rfl rfl ?_
      refine go_iload (y := mX6_readCommand) (pc := 70) dX6_readCommand_70 rfl ?_
      refine go_callV3 (y := mX6_readCommand) (pc := 72) (y' := mX6_readOperands) (kc2 := 0) (ks2 := 0) dX6_readCommand_72 ml_X6_63 ok_X6_readOperands (show shp 4 = _ from rfl) ⟨_, _, rfl⟩ (by decide) ⟨rfl, rfl, rfl⟩ (by decide) (Nat.le_of_ble_eq_true rfl) rfl (f_readOperands (μ := cm1 (kwV f L s) μ) (k := kwV f L s) (by omega) (by unfold cm1; rw [wr_s]) (by omega) hI1.1 e64 hI1.2.1 (fun ρ72 e72 => ?_))
      refine go_iload (y := mX6_readCommand) (pc := 75) dX6_readCommand_75 rfl ?_
      refine go_bipush (y := mX6_readCommand) (pc := 77) dX6_readCommand_77 (by decide) ?_
      refine go_icmp_ne (y := mX6_readCommand) (pc := 79) (tgt := 89) dX6_readCommand_79 (by decide) (by omega) (by omega) (fun h79 => ?_) (fun h79 => ?_)
      · skip
        have em : (cm3 f L (bk1 f L) 0 (s, μ)) = opr f L (kwV f L s) (μ 4 5).toNat (gon f L s) (cm1 (kwV f L s) μ) := by
          unfold cm3
          rw [if_neg (show ¬ kwV f L (s, μ).1 = 8 by show ¬ kwV f L s = 8; omega)]
          rfl
        have h := J89 (by omega) (by omega) v1 ρ72 (by rw [em]; exact e72)
        rw [em] at h
        exact h
      · skip
        refine go_aload_n (y := mX6_readCommand) (pc := 82) dX6_readCommand_82 rfl rfl ?_
        refine go_aload_n (y := mX6_readCommand) (pc := 83) dX6_readCommand_83 rfl rfl ?_
        refine go_aload_n (y := mX6_readCommand) (pc := 84) dX6_readCommand_84 rfl rfl ?_
        refine go_iload_n (y := mX6_readCommand) (pc := 85) dX6_readCommand_85 rfl rfl ?_
        refine go_callV3 (y := mX6_readCommand) (pc := 86) (y' := mX6_readBrackets) (kc2 := 0) (ks2 := 0) dX6_readCommand_86 ml_X6_66 ok_X6_readBrackets (show shp 4 = _ from rfl) ⟨_, _, rfl⟩ (by decide) ⟨rfl, rfl, rfl⟩ (by decide) (Nat.le_of_ble_eq_true rfl) rfl (f_readBrackets2 (s := (opr f L (kwV f L s) (μ 4 5).toNat (gon f L s) (cm1 (kwV f L s) μ)).1) (okI_opr hI1) e72 (fun ρ86 e86 => ?_))
        have em : (cm3 f L (bk1 f L) 0 (s, μ)) = brS f L (bk1 f L) 0 (opr f L (kwV f L s) (μ 4 5).toNat (gon f L s) (cm1 (kwV f L s) μ)) := by
          unfold cm3
          rw [if_pos (show kwV f L (s, μ).1 = 8 by show kwV f L s = 8; omega)]
          rfl
        have h := J89 (by omega) (by omega) v1 ρ86 (by rw [em]; exact e86)
        rw [em] at h
        exact h
    · skip
      refine go_aload_n (y := mX6_readCommand) (pc := 29) dX6_readCommand_29 rfl rfl ?_
      refine go_iconst (y := mX6_readCommand) (pc := 30) dX6_readCommand_30 ?_
      refine go_callV1 (y := mX6_readCommand) (pc := 31) (y' := mX9_take) (kc2 := 0) (ks2 := 0) dX6_readCommand_31 ml_X6_59 ok_X9_take (show shp 3 = _ from rfl) ⟨_, _, rfl⟩ (by decide) rfl (by decide) (Nat.le_of_ble_eq_true rfl) rfl (f_take (by omega) (by (repeat' refine okT_wr ?_ (by decide) (by decide)); exact ht) hr (fun ρ31 e31 => ?_))
      refine go_goto (y := mX6_readCommand) (pc := 34) (tgt := 100) dX6_readCommand_34 (by decide) ?_
      refine go_return (y := mX6_readCommand) (pc := 100) dX6_readCommand_100 rfl ?_
      rw [cmd_t (x := (s, μ)) (show kwV f L s ≠ -1 by omega) (show 30 ≤ μ 4 5 by omega)] at K
      exact K ρ31 e31
  · skip
    refine go_aload_n (y := mX6_readCommand) (pc := 12) dX6_readCommand_12 rfl rfl ?_
    refine go_iconst (y := mX6_readCommand) (pc := 13) dX6_readCommand_13 ?_
    refine go_callV1 (y := mX6_readCommand) (pc := 14) (y' := mX9_take) (kc2 := 0) (ks2 := 0) dX6_readCommand_14 ml_X6_59 ok_X9_take (show shp 3 = _ from rfl) ⟨_, _, rfl⟩ (by decide) rfl (by decide) (Nat.le_of_ble_eq_true rfl) rfl (f_take (by omega) (by (repeat' refine okT_wr ?_ (by decide) (by decide)); exact ht) hr (fun ρ14 e14 => ?_))
    refine go_goto (y := mX6_readCommand) (pc := 17) (tgt := 100) dX6_readCommand_17 (by decide) ?_
    refine go_return (y := mX6_readCommand) (pc := 100) dX6_readCommand_100 rfl ?_
    rw [cmd_n (x := (s, μ)) (show kwV f L s = -1 by omega)] at K
    exact K ρ14 e14
set_option maxRecDepth 8000 in
set_option maxHeartbeats 4000000 in
theorem f_readBlock2 (hI : okI f L μ) (hr : rok f L s ρ) {Q : Option Value → Mem → Prop} {X : String → Mem → Prop} (K : ∀ ρ', rok f L (bk2 f L (s, μ)).1 ρ' → Q none (pr ρ' (bk2 f L (s, μ)).2)) : mt 276 14 0 0 mX6_readBlock [.ref 4, .ref 3, .ref 10, .int (iI 0)] Q X (pr ρ μ) := by
  show go 276 14 0 0 mX6_readBlock Q X 0 [.ref 4, .ref 3, .ref 10, .int (iI 0), .null] [] _
  have loop : ∀ (n k : Nat) (x : Sta × Mem) (ρ : Nat → Int), k + n = 31 → okI f L x.2 → rok f L x.1 ρ → blk f L (bk1 f L) 0 n x = bk2 f L (s, μ) → go 276 14 0 0 mX6_readBlock Q X 3 [.ref 4, .ref 3, .ref 10, .int (iI 0), .int (iI (k : Nat))] [] (pr ρ x.2) := by
    intro n
    induction n with
    | zero =>
      intro k x ρ hk hI hr he
      rw [blk] at he
      rw [← he] at K
      refine go_iload (y := mX6_readBlock) (pc := 3) dX6_readBlock_3 rfl ?_
      refine go_bipush (y := mX6_readBlock) (pc := 5) dX6_readBlock_5 (by decide) ?_
      refine go_icmp_gt (y := mX6_readBlock) (pc := 7) (tgt := 43) dX6_readBlock_7 (by decide) (by omega) (by omega) (fun h7 => ?_) (fun h7 => ?_)
      · skip
        refine go_return (y := mX6_readBlock) (pc := 43) dX6_readBlock_43 rfl ?_
        exact K ρ hr
      · skip
        exact absurd h7 (by omega)
    | succ n ih =>
      intro k x ρ hk hI hr he
      have ht := hI.1
      rw [blk] at he
      have J43 : ¬ (x.1.2.1 = 0 ∧ tkK f x.1.1 = 1) → go 276 14 0 0 mX6_readBlock Q X 43 [.ref 4, .ref 3, .ref 10, .int (iI 0), .int (iI (k : Nat))] [] (pr ρ x.2) := by
        intro g
        rw [if_neg g] at he
        rw [← he] at K
        refine go_return (y := mX6_readBlock) (pc := 43) dX6_readBlock_43 rfl ?_
        exact K ρ hr
      refine go_iload (y := mX6_readBlock) (pc := 3) dX6_readBlock_3 rfl ?_
      refine go_bipush (y := mX6_readBlock) (pc := 5) dX6_readBlock_5 (by decide) ?_
      refine go_icmp_gt (y := mX6_readBlock) (pc := 7) (tgt := 43) dX6_readBlock_7 (by decide) (by omega) (by omega) (fun h7 => ?_) (fun h7 => ?_)
      · skip
        exact absurd h7 (by omega)
      · skip
        refine go_aload_n (y := mX6_readBlock) (pc := 10) dX6_readBlock_10 rfl rfl ?_
        refine go_callV0 (y := mX6_readBlock) (pc := 11) (y' := mX9_isFine) (kc2 := 0) (ks2 := 0) dX6_readBlock_11 ml_X6_38 ok_X9_isFine (show shp 3 = _ from rfl) ⟨_, _, rfl⟩ (by decide) trivial (by decide) (Nat.le_of_ble_eq_true rfl) rfl (f_isFine (by (repeat' refine okT_wr ?_ (by decide) (by decide)); exact ht) hr (fun v11 e11 b11 => ?_))
        refine go_if_eq (y := mX6_readBlock) (pc := 14) (tgt := 43) dX6_readBlock_14 (by decide) (by omega) (fun h14 => ?_) (fun h14 => ?_)
        · skip
          exact J43 (fun w => bI_0 e11 h14 w.1)
        · skip
          refine go_aload_n (y := mX6_readBlock) (pc := 17) dX6_readBlock_17 rfl rfl ?_
          refine go_callV0 (y := mX6_readBlock) (pc := 18) (y' := mX9_isAtWord) (kc2 := 0) (ks2 := 0) dX6_readBlock_18 ml_X6_44 ok_X9_isAtWord (show shp 3 = _ from rfl) ⟨_, _, rfl⟩ (by decide) trivial (by decide) (Nat.le_of_ble_eq_true rfl) rfl (f_isAtWord (by (repeat' refine okT_wr ?_ (by decide) (by decide)); exact ht) hr (fun v18 e18 b18 => ?_))
          refine go_if_eq (y := mX6_readBlock) (pc := 21) (tgt := 43) dX6_readBlock_21 (by decide) (by omega) (fun h21 => ?_) (fun h21 => ?_)
          · skip
            exact J43 (fun w => bI_0 e18 h21 w.2)
          · skip
            rw [if_pos ⟨bI_1 e11 h14, bI_1 e18 h21⟩] at he
            refine go_aload_n (y := mX6_readBlock) (pc := 24) dX6_readBlock_24 rfl rfl ?_
            refine go_aload_n (y := mX6_readBlock) (pc := 25) dX6_readBlock_25 rfl rfl ?_
            refine go_aload_n (y := mX6_readBlock) (pc := 26) dX6_readBlock_26 rfl rfl ?_
            refine go_iload_n (y := mX6_readBlock) (pc := 27) dX6_readBlock_27 rfl rfl ?_
            refine go_callV3 (y := mX6_readBlock) (pc := 28) (y' := mX6_readCommand) (kc2 := 0) (ks2 := 0) dX6_readBlock_28 ml_X6_47 ok_X6_readCommand (show shp 4 = _ from rfl) ⟨_, _, rfl⟩ (by decide) ⟨rfl, rfl, rfl⟩ (by decide) (Nat.le_of_ble_eq_true rfl) rfl (f_readCommand2 (s := x.1) hI hr (fun ρ28 e28 => ?_))
            have ht := (pv_cmd (d := 0) pv_1 x hI).1
            refine go_aload_n (y := mX6_readBlock) (pc := 31) dX6_readBlock_31 rfl rfl ?_
            refine go_bipush (y := mX6_readBlock) (pc := 32) dX6_readBlock_32 (by decide) ?_
            refine go_callV1 (y := mX6_readBlock) (pc := 34) (y' := mX9_takeSign) (kc2 := 0) (ks2 := 0) dX6_readBlock_34 ml_X6_51 ok_X9_takeSign (show shp 3 = _ from rfl) ⟨_, _, rfl⟩ (by decide) rfl (by decide) (Nat.le_of_ble_eq_true rfl) rfl (f_takeSign (by omega) (by (repeat' refine okT_wr ?_ (by decide) (by decide)); exact ht) e28 (fun ρ34 e34 => ?_))
            refine go_iinc (y := mX6_readBlock) (pc := 37) dX6_readBlock_37 rfl (by decide) ?_
            refine go_goto (y := mX6_readBlock) (pc := 40) (tgt := 3) dX6_readBlock_40 (by decide) ?_
            exact ih (k + 1) (cms f L (bk1 f L) 0 x) ρ34 (by omega) (pv_cms pv_1 x hI) e34 he
  refine go_iconst (y := mX6_readBlock) (pc := 0) dX6_readBlock_0 ?_
  refine go_istore (y := mX6_readBlock) (pc := 1) dX6_readBlock_1 (by decide) ?_
  exact loop 31 0 (s, μ) ρ (by omega) hI hr rfl
end FBlock
