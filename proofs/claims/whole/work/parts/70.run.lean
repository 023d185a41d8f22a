/-! SCRIPTS RUN: a command on a chamber -/
def rfC (S s : Mem) (k m n : Int) : Int := if k = 0 then rfMo S s m n else if k = 1 then rfRq S s m n else if k = 2 then rfRb S s m n else if k = 3 then rfWt s n else if k = 4 then rfVt S s n else if k = 5 then rfWd s n else if k = 6 then rfSh S s m else rfRk n
def pfC (S s : Mem) (k m d n : Int) : Mem := if k = 0 then amo S s m n else if k = 1 then rad s m n d else if k = 2 then reb s n.toNat else if k = 3 then (pms S s n.toNat).1 else if k = 4 then hvo S s n.toNat else if k = 5 then clo s n.toNat 3 else if k = 6 then shp5 s m.toNat else wr s 0 6 n
section RunPure
variable {S s : Mem} {m n q d : Int}
theorem rfMo_0 (h : rfMo S s m n = 0) : (0 ≤ m ∧ m < S 0 7) ∧ (0 ≤ n ∧ n ≤ 20) ∧ s 5 0 < 16 := by
  unfold rfMo at h
  by_cases g : 0 ≤ m ∧ m < S 0 7
  · rw [if_pos g] at h
    by_cases g1 : n < 0 ∨ 20 < n
    · rw [if_pos g1] at h; omega
    · rw [if_neg g1] at h
      by_cases g2 : 16 ≤ s 5 0
      · rw [if_pos g2] at h; omega
      · exact ⟨g, by omega, by omega⟩
  · rw [if_neg g] at h; omega
theorem rfRq_0 (h : rfRq S s m q = 0) : (0 ≤ m ∧ m < S 0 7) ∧ (0 ≤ q ∧ q < s 5 0) ∧ plc s m = -1 := by
  unfold rfRq at h
  by_cases g : (0 ≤ m ∧ m < S 0 7) ∧ (0 ≤ q ∧ q < s 5 0)
  · rw [if_pos g] at h
    by_cases g1 : opn s q ∧ plc s m = -1 ∧ tkn s m = -1
    · exact ⟨g.1, g.2, g1.2.1⟩
    · rw [if_neg g1] at h; omega
  · rw [if_neg g] at h; omega
theorem rfRb_0 (h : rfRb S s m q = 0) : (0 ≤ m ∧ m < S 0 7) ∧ (0 ≤ q ∧ q < S 0 0) ∧ s 16 q.toNat ≠ -1 ∧ s 20 q.toNat ≤ 0 ∧ 0 < frm S s := by
  unfold rfRb at h
  by_cases g : (0 ≤ m ∧ m < S 0 7) ∧ (0 ≤ q ∧ q < S 0 0)
  · rw [if_pos g] at h
    by_cases g1 : s 16 q.toNat ≠ -1 ∧ s 20 q.toNat ≤ 0 ∧ 0 < frm S s ∧ tkn s m = -1 ∧ ln s m.toNat (s 17 q.toNat).toNat * s 18 q.toNat < 0
    · exact ⟨g.1, g.2, g1.1, g1.2.1, g1.2.2.1⟩
    · rw [if_neg g1] at h; omega
  · rw [if_neg g] at h; omega
theorem rfWt_0 (h : rfWt s n = 0) : 1 ≤ n ∧ n ≤ 60 := by
  unfold rfWt at h
  by_cases g : n < 1 ∨ 60 < n
  · rw [if_pos g] at h; omega
  · omega
theorem rfVt_0 (h : rfVt S s q = 0) : 0 ≤ q ∧ q < s 5 0 := by
  unfold rfVt at h
  by_cases g : 0 ≤ q ∧ q < s 5 0
  · exact g
  · rw [if_neg g] at h; omega
theorem rfWd_0 (h : rfWd s q = 0) : 0 ≤ q ∧ q < s 5 0 := by
  unfold rfWd at h
  by_cases g : 0 ≤ q ∧ q < s 5 0
  · exact g
  · rw [if_neg g] at h; omega
theorem rfSh_0 (h : rfSh S s m = 0) : (0 ≤ m ∧ m < S 0 7) ∧ 2 ≤ s 2 m.toNat := by
  unfold rfSh at h
  by_cases g : 0 ≤ m ∧ m < S 0 7
  · rw [if_pos g] at h
    by_cases g1 : s 3 m.toNat = 5 ∨ s 2 m.toNat < 2
    · rw [if_pos g1] at h; omega
    · exact ⟨g, by omega⟩
  · rw [if_neg g] at h; omega
theorem rfRk_0 (h : rfRk n = 0) : 0 ≤ n ∧ n ≤ 3 := by
  unfold rfRk at h
  by_cases g : n < 0 ∨ 3 < n
  · rw [if_pos g] at h; omega
  · omega
theorem wf_pf {k : Int} (hS : wfS S) (hC : wfC S s) (h : rfC S s k m n = 0) (hd : k = 1 → d = 1 ∨ d = -1) : wfC S (pfC S s k m d n) := by
  obtain ⟨n1, n12, c1, c4⟩ := wf_n hS
  unfold rfC at h
  unfold pfC
  by_cases k0 : k = 0
  · rw [if_pos k0] at h ⊢
    obtain ⟨g1, g2, g3⟩ := rfMo_0 h
    exact wf_amo hC n12 g3 g1
  rw [if_neg k0] at h ⊢
  by_cases k1 : k = 1
  · rw [if_pos k1] at h ⊢
    obtain ⟨g1, g2, g3⟩ := rfRq_0 h
    obtain ⟨i, rfl⟩ := Int.eq_ofNat_of_zero_le g1.1
    obtain ⟨j, rfl⟩ := Int.eq_ofNat_of_zero_le g2.1
    exact wf_rad hS hC g1.2 g2.2 (hd k1) g3
  rw [if_neg k1] at h ⊢
  by_cases k2 : k = 2
  · rw [if_pos k2] at h ⊢
    obtain ⟨g1, g2, g3, g4, g5⟩ := rfRb_0 h
    exact wf_reb hS hC (by omega) g3 g4 g5
  rw [if_neg k2] at h ⊢
  by_cases k3 : k = 3
  · rw [if_pos k3]
    exact (wf_pms hS hC _).1
  rw [if_neg k3] at h ⊢
  by_cases k4 : k = 4
  · rw [if_pos k4]
    exact wf_hvo hS hC
  rw [if_neg k4] at h ⊢
  by_cases k5 : k = 5
  · rw [if_pos k5]
    exact wf_clo hC (by decide)
  rw [if_neg k5] at h ⊢
  by_cases k6 : k = 6
  · rw [if_pos k6] at h ⊢
    obtain ⟨g1, g2⟩ := rfSh_0 h
    exact wf_shp5 hC (by omega) g2
  rw [if_neg k6] at h ⊢
  have g := rfRk_0 h
  exact wf_w hC (by omega)
end RunPure
/-! a script's course: the chamber, how many commands were executed, whether it was stopped -/
abbrev Rst : Type := Mem × Int × Bool
def one (τ S : Mem) (i : Nat) (x : Rst) : Rst := if 40 ≤ x.2.1 ∨ rfC S x.1 (τ 5 i) (τ 6 i) (τ 8 i) ≠ 0 then (x.1, x.2.1, true) else (pfC S x.1 (τ 5 i) (τ 6 i) (τ 7 i) (τ 8 i), x.2.1 + 1, false)
def itr (g : Rst → Rst) : Nat → Rst → Rst
  | 0, x => x
  | t + 1, x => itr g t (g x)
def rnB (τ S : Mem) : Nat → Nat → Nat → Rst → Rst
  | 0, _, _, x => x
  | n + 1, a, b, x => if b ≤ a ∨ x.2.2 = true then x else if τ 5 a = 8 then rnB τ S n (τ 9 a).toNat b (itr (rnB τ S n (a + 1) (τ 9 a).toNat) (τ 8 a).toNat x) else rnB τ S n (a + 1) b (one τ S a x)
def okR (S : Mem) (x : Rst) : Prop := wfC S x.1 ∧ 0 ≤ x.2.1 ∧ x.2.1 ≤ 40
/-- what a script must be like to be run -/
def okP (τ : Mem) (b : Nat) : Prop := b ≤ 30 ∧ ∀ k : Nat, k < b → (0 ≤ τ 5 k ∧ τ 5 k ≤ 8) ∧ (τ 5 k = 1 → τ 7 k = 1 ∨ τ 7 k = -1) ∧ (τ 5 k = 8 → 0 ≤ τ 8 k ∧ τ 8 k ≤ 20)
section RunPure2
variable {τ S : Mem}
theorem itr_st {g : Rst → Rst} (hg : ∀ x, x.2.2 = true → g x = x) : ∀ (t : Nat) (x : Rst), x.2.2 = true → itr g t x = x
  | 0, _, _ => rfl
  | t + 1, x, h => by rw [itr, hg x h, itr_st hg t x h]
theorem rnB_st : ∀ (n a b : Nat) (x : Rst), x.2.2 = true → rnB τ S n a b x = x
  | 0, _, _, _, _ => rfl
  | n + 1, a, b, x, h => by rw [rnB, if_pos (Or.inr h)]
theorem rnB_e : ∀ (n a b : Nat) (x : Rst), b ≤ a → rnB τ S n a b x = x
  | 0, _, _, _, _ => rfl
  | n + 1, a, b, x, h => by rw [rnB, if_pos (Or.inl h)]
theorem ok_one {i b : Nat} {x : Rst} (hS : wfS S) (hP : okP τ b) (hi : i < b) (h : okR S x) : okR S (one τ S i x) := by
  obtain ⟨h1, h2, h3⟩ := h
  unfold one
  by_cases g : 40 ≤ x.2.1 ∨ rfC S x.1 (τ 5 i) (τ 6 i) (τ 8 i) ≠ 0
  · rw [if_pos g]
    exact ⟨h1, h2, h3⟩
  · rw [if_neg g]
    refine ⟨wf_pf hS h1 (Decidable.byContradiction fun w => g (Or.inr w)) ((hP.2 i hi).2.1), ?_, ?_⟩
    · show 0 ≤ x.2.1 + 1
      omega
    · show x.2.1 + 1 ≤ 40
      omega
theorem ok_itr {g : Rst → Rst} (hg : ∀ x, okR S x → okR S (g x)) : ∀ (t : Nat) (x : Rst), okR S x → okR S (itr g t x)
  | 0, _, h => h
  | t + 1, x, h => ok_itr hg t (g x) (hg x h)
theorem ok_rnB {b9 : Nat} (hS : wfS S) (hP : okP τ b9) : ∀ (n r a b : Nat) (x : Rst), wfb τ r n a b → b ≤ b9 → okR S x → okR S (rnB τ S n a b x)
  | 0, _, _, _, _, _, _, h => h
  | n + 1, r, a, b, x, hw, hb, h => by
    rw [rnB]
    by_cases g : b ≤ a ∨ x.2.2 = true
    · rw [if_pos g]; exact h
    · rw [if_neg g]
      rcases hw with w | ⟨w1, w | ⟨w2, w3, e, w4, w5, w6, w7, w8⟩⟩
      · exact absurd (Or.inl w) g
      · rw [if_neg w.1]
        exact ok_rnB hS hP n r (a + 1) b _ w.2.2 hb (ok_one hS hP (by omega) h)
      · rw [if_pos w2, w6]
        exact ok_rnB hS hP n r e b _ w8 hb (ok_itr (fun y hy => ok_rnB hS hP n (r - 1) (a + 1) e y w7 (by omega) hy) _ x h)
end RunPure2
/-- the memory while a script runs -/
abbrev xs (x : Rst) (μ : Mem) : Mem := put 20 x.1 (wr (wr μ 4 6 x.2.1) 4 7 (if x.2.2 = true then 1 else 0))
theorem xs_o {x : Rst} {μ : Mem} {b j : Nat} (h : (b < 20 ∨ 41 ≤ b) ∧ b ≠ 4) : wr (wr μ 4 6 x.2.1) 4 7 (if x.2.2 = true then 1 else 0) b j = μ b j := by
  rw [wr_na h.2, wr_na h.2]
theorem su_xs {x : Rst} {μ : Mem} : su (wr (wr μ 4 6 x.2.1) 4 7 (if x.2.2 = true then 1 else 0)) = su μ := by
  rw [su_wr (by decide), su_wr (by decide)]
section BZ
variable {z d kc ks : Nat} {y : MI} {Q : Option Value → Mem → Prop} {X : String → Mem → Prop} {pc : Nat} {ls st : List Value} {μ σ : Mem} {c b : Nat}
theorem go_bputZ {idx ci j : Nat} {v : Int} {fs : List (Option Nat)} (hd : decode y.2.1 pc = .ok (.putfield idx, 3)) (hf : fpk y.1.cls idx ci j .boolean) (hs : shp b = (0, ci, fs)) (hj : fs[j]? = some none) (hb : b < z) (ho : b < c ∨ c + 21 ≤ b) (hv : v = 0 ∨ v = 1) (K : go z d kc ks y Q X (pc + 3) ls st (put c σ (wr μ b j v))) : go z d kc ks y Q X pc ls (.int (iI v) :: .ref b :: st) (put c σ μ) :=
  go_putZ hd hf hs hj hb hv (by rw [put_wo ho]; exact K)
end BZ
section CRun
variable {σ μ : Mem}
set_option maxRecDepth 8000 in
set_option maxHeartbeats 4000000 in
theorem r_refusalOf {i : Nat} (hi : i < 30) (hk : 0 ≤ μ 5 i ∧ μ 5 i ≤ 7) (hS : wfS (su μ)) (hC : wfC (su μ) σ) {Q : Option Value → Mem → Prop} {X : String → Mem → Prop} (K : ∀ v, v = rfC (su μ) σ (μ 5 i) (μ 6 i) (μ 8 i) → 0 ≤ v ∧ v ≤ 3 → Q (some (.int (iI v))) (put 20 σ μ)) : mt 276 5 0 0 mX6_refusalOf [.ref 4, .ref 20, .int (iI (i : Nat))] Q X (put 20 σ μ) := by
  show go 276 5 0 0 mX6_refusalOf Q X 0 [.ref 4, .ref 20, .int (iI (i : Nat))] [] _
  obtain ⟨n1, n12, c1, c4⟩ := wf_n hS
  obtain ⟨q0, h16, h11, h12⟩ := wf_r hS hC
  have hk9 : μ 5 i = 0 ∨ μ 5 i = 1 ∨ μ 5 i = 2 ∨ μ 5 i = 3 ∨ μ 5 i = 4 ∨ μ 5 i = 5 ∨ μ 5 i = 6 ∨ μ 5 i = 7 := by omega
  unfold rfC at K
  rcases hk9 with hk9 | hk9 | hk9 | hk9 | hk9 | hk9 | hk9 | hk9
  · skip
    rw [hk9, if_pos rfl] at K
    refine go_aload_n (y := mX6_refusalOf) (pc := 0) dX6_refusalOf_0 rfl rfl ?_
    refine go_getR (y := mX6_refusalOf) (pc := 1) dX6_refusalOf_1 fl_X6_9 rfl rfl (by decide) ?_
    refine go_iload_n (y := mX6_refusalOf) (pc := 4) dX6_refusalOf_4 rfl rfl ?_
    refine go_bial (y := mX6_refusalOf) (pc := 5) (k := i) dX6_refusalOf_5 rfl (by decide) (by decide) rfl (by omega) (by decide) (fun r5 => ?_)
    refine go_top (b := 0) (hk9) (fun t5 => ?_)
    refine go_tbIn (y := mX6_refusalOf) (pc := 6) (off := 42) (tgt := 48) dX6_refusalOf_6 (by decide) (by decide) (by decide) rfl (by decide) ?_
    refine go_aload_n (y := mX6_refusalOf) (pc := 48) dX6_refusalOf_48 rfl rfl ?_
    refine go_aload_n (y := mX6_refusalOf) (pc := 49) dX6_refusalOf_49 rfl rfl ?_
    refine go_getR (y := mX6_refusalOf) (pc := 50) dX6_refusalOf_50 fl_X6_15 rfl rfl (by decide) ?_
    refine go_iload_n (y := mX6_refusalOf) (pc := 53) dX6_refusalOf_53 rfl rfl ?_
    refine go_bial (y := mX6_refusalOf) (pc := 54) (k := i) dX6_refusalOf_54 rfl (by decide) (by decide) rfl (by omega) (by decide) (fun r54 => ?_)
    refine go_top (b := μ 6 i) (rfl) (fun t54 => ?_)
    refine go_aload_n (y := mX6_refusalOf) (pc := 55) dX6_refusalOf_55 rfl rfl ?_
    refine go_getR (y := mX6_refusalOf) (pc := 56) dX6_refusalOf_56 fl_X6_21 rfl rfl (by decide) ?_
    refine go_iload_n (y := mX6_refusalOf) (pc := 59) dX6_refusalOf_59 rfl rfl ?_
    refine go_bial (y := mX6_refusalOf) (pc := 60) (k := i) dX6_refusalOf_60 rfl (by decide) (by decide) rfl (by omega) (by decide) (fun r60 => ?_)
    refine go_top (b := μ 8 i) (rfl) (fun t60 => ?_)
    refine go_callV2 (y := mX6_refusalOf) (pc := 61) (y' := mX1_refusalOfMotion) (kc2 := 0) (ks2 := 0) dX6_refusalOf_61 ml_X6_145 ok_X1_refusalOfMotion (ch_sh h20 0 (by decide)) ⟨_, _, rfl⟩ (ch_z (r := 0) h20 (by decide)) ⟨rfl, rfl⟩ (by decide) (Nat.le_of_ble_eq_true rfl) rfl (c_refusalOfMotion h20 (by omega) (by omega) (fun v61 e61 b61 => ?_))
    refine go_ireturn (y := mX6_refusalOf) (pc := 64) dX6_refusalOf_64 rfl ?_
    exact K v61 e61 b61
  · skip
    rw [hk9, if_neg (show ¬ (1 : Int) = 0 by decide), if_pos rfl] at K
    refine go_aload_n (y := mX6_refusalOf) (pc := 0) dX6_refusalOf_0 rfl rfl ?_
    refine go_getR (y := mX6_refusalOf) (pc := 1) dX6_refusalOf_1 fl_X6_9 rfl rfl (by decide) ?_
    refine go_iload_n (y := mX6_refusalOf) (pc := 4) dX6_refusalOf_4 rfl rfl ?_
    refine go_bial (y := mX6_refusalOf) (pc := 5) (k := i) dX6_refusalOf_5 rfl (by decide) (by decide) rfl (by omega) (by decide) (fun r5 => ?_)
    refine go_top (b := 1) (hk9) (fun t5 => ?_)
    refine go_tbIn (y := mX6_refusalOf) (pc := 6) (off := 59) (tgt := 65) dX6_refusalOf_6 (by decide) (by decide) (by decide) rfl (by decide) ?_
    refine go_aload_n (y := mX6_refusalOf) (pc := 65) dX6_refusalOf_65 rfl rfl ?_
    refine go_aload_n (y := mX6_refusalOf) (pc := 66) dX6_refusalOf_66 rfl rfl ?_
    refine go_getR (y := mX6_refusalOf) (pc := 67) dX6_refusalOf_67 fl_X6_15 rfl rfl (by decide) ?_
    refine go_iload_n (y := mX6_refusalOf) (pc := 70) dX6_refusalOf_70 rfl rfl ?_
    refine go_bial (y := mX6_refusalOf) (pc := 71) (k := i) dX6_refusalOf_71 rfl (by decide) (by decide) rfl (by omega) (by decide) (fun r71 => ?_)
    refine go_top (b := μ 6 i) (rfl) (fun t71 => ?_)
    refine go_aload_n (y := mX6_refusalOf) (pc := 72) dX6_refusalOf_72 rfl rfl ?_
    refine go_getR (y := mX6_refusalOf) (pc := 73) dX6_refusalOf_73 fl_X6_21 rfl rfl (by decide) ?_
    refine go_iload_n (y := mX6_refusalOf) (pc := 76) dX6_refusalOf_76 rfl rfl ?_
    refine go_bial (y := mX6_refusalOf) (pc := 77) (k := i) dX6_refusalOf_77 rfl (by decide) (by decide) rfl (by omega) (by decide) (fun r77 => ?_)
    refine go_top (b := μ 8 i) (rfl) (fun t77 => ?_)
    refine go_callV2 (y := mX6_refusalOf) (pc := 78) (y' := mX1_refusalOfRequest) (kc2 := 0) (ks2 := 0) dX6_refusalOf_78 ml_X6_150 ok_X1_refusalOfRequest (ch_sh h20 0 (by decide)) ⟨_, _, rfl⟩ (ch_z (r := 0) h20 (by decide)) ⟨rfl, rfl⟩ (by decide) (Nat.le_of_ble_eq_true rfl) rfl (c_refusalOfRequest h20 (by omega) (by omega) h16 h11 h12 (fun v78 e78 b78 => ?_))
    refine go_ireturn (y := mX6_refusalOf) (pc := 81) dX6_refusalOf_81 rfl ?_
    exact K v78 e78 b78
  · skip
    rw [hk9, if_neg (show ¬ (2 : Int) = 0 by decide), if_neg (show ¬ (2 : Int) = 1 by decide), if_pos rfl] at K
    refine go_aload_n (y := mX6_refusalOf) (pc := 0) dX6_refusalOf_0 rfl rfl ?_
    refine go_getR (y := mX6_refusalOf) (pc := 1) dX6_refusalOf_1 fl_X6_9 rfl rfl (by decide) ?_
    refine go_iload_n (y := mX6_refusalOf) (pc := 4) dX6_refusalOf_4 rfl rfl ?_
    refine go_bial (y := mX6_refusalOf) (pc := 5) (k := i) dX6_refusalOf_5 rfl (by decide) (by decide) rfl (by omega) (by decide) (fun r5 => ?_)
    refine go_top (b := 2) (hk9) (fun t5 => ?_)
    refine go_tbIn (y := mX6_refusalOf) (pc := 6) (off := 76) (tgt := 82) dX6_refusalOf_6 (by decide) (by decide) (by decide) rfl (by decide) ?_
    refine go_aload_n (y := mX6_refusalOf) (pc := 82) dX6_refusalOf_82 rfl rfl ?_
    refine go_aload_n (y := mX6_refusalOf) (pc := 83) dX6_refusalOf_83 rfl rfl ?_
    refine go_getR (y := mX6_refusalOf) (pc := 84) dX6_refusalOf_84 fl_X6_15 rfl rfl (by decide) ?_
    refine go_iload_n (y := mX6_refusalOf) (pc := 87) dX6_refusalOf_87 rfl rfl ?_
    refine go_bial (y := mX6_refusalOf) (pc := 88) (k := i) dX6_refusalOf_88 rfl (by decide) (by decide) rfl (by omega) (by decide) (fun r88 => ?_)
    refine go_top (b := μ 6 i) (rfl) (fun t88 => ?_)
    refine go_aload_n (y := mX6_refusalOf) (pc := 89) dX6_refusalOf_89 rfl rfl ?_
    refine go_getR (y := mX6_refusalOf) (pc := 90) dX6_refusalOf_90 fl_X6_21 rfl rfl (by decide) ?_
    refine go_iload_n (y := mX6_refusalOf) (pc := 93) dX6_refusalOf_93 rfl rfl ?_
    refine go_bial (y := mX6_refusalOf) (pc := 94) (k := i) dX6_refusalOf_94 rfl (by decide) (by decide) rfl (by omega) (by decide) (fun r94 => ?_)
    refine go_top (b := μ 8 i) (rfl) (fun t94 => ?_)
    refine go_callV2 (y := mX6_refusalOf) (pc := 95) (y' := mX1_refusalOfRebuttal) (kc2 := 0) (ks2 := 0) dX6_refusalOf_95 ml_X6_153 ok_X1_refusalOfRebuttal (ch_sh h20 0 (by decide)) ⟨_, _, rfl⟩ (ch_z (r := 0) h20 (by decide)) ⟨rfl, rfl⟩ (by decide) (Nat.le_of_ble_eq_true rfl) rfl (c_refusalOfRebuttal h20 (by omega) (by omega) hS hC (fun v95 e95 b95 => ?_))
    refine go_ireturn (y := mX6_refusalOf) (pc := 98) dX6_refusalOf_98 rfl ?_
    exact K v95 e95 b95
  · skip
    rw [hk9, if_neg (show ¬ (3 : Int) = 0 by decide), if_neg (show ¬ (3 : Int) = 1 by decide), if_neg (show ¬ (3 : Int) = 2 by decide), if_pos rfl] at K
    refine go_aload_n (y := mX6_refusalOf) (pc := 0) dX6_refusalOf_0 rfl rfl ?_
    refine go_getR (y := mX6_refusalOf) (pc := 1) dX6_refusalOf_1 fl_X6_9 rfl rfl (by decide) ?_
    refine go_iload_n (y := mX6_refusalOf) (pc := 4) dX6_refusalOf_4 rfl rfl ?_
    refine go_bial (y := mX6_refusalOf) (pc := 5) (k := i) dX6_refusalOf_5 rfl (by decide) (by decide) rfl (by omega) (by decide) (fun r5 => ?_)
    refine go_top (b := 3) (hk9) (fun t5 => ?_)
    refine go_tbIn (y := mX6_refusalOf) (pc := 6) (off := 93) (tgt := 99) dX6_refusalOf_6 (by decide) (by decide) (by decide) rfl (by decide) ?_
    refine go_aload_n (y := mX6_refusalOf) (pc := 99) dX6_refusalOf_99 rfl rfl ?_
    refine go_aload_n (y := mX6_refusalOf) (pc := 100) dX6_refusalOf_100 rfl rfl ?_
    refine go_getR (y := mX6_refusalOf) (pc := 101) dX6_refusalOf_101 fl_X6_21 rfl rfl (by decide) ?_
    refine go_iload_n (y := mX6_refusalOf) (pc := 104) dX6_refusalOf_104 rfl rfl ?_
    refine go_bial (y := mX6_refusalOf) (pc := 105) (k := i) dX6_refusalOf_105 rfl (by decide) (by decide) rfl (by omega) (by decide) (fun r105 => ?_)
    refine go_top (b := μ 8 i) (rfl) (fun t105 => ?_)
    refine go_callV1 (y := mX6_refusalOf) (pc := 106) (y' := mX1_refusalOfWait) (kc2 := 0) (ks2 := 0) dX6_refusalOf_106 ml_X6_156 ok_X1_refusalOfWait (ch_sh h20 0 (by decide)) ⟨_, _, rfl⟩ (ch_z (r := 0) h20 (by decide)) rfl (by decide) (Nat.le_of_ble_eq_true rfl) rfl (c_refusalOfWait h20 (by omega) (fun v106 e106 b106 => ?_))
    refine go_ireturn (y := mX6_refusalOf) (pc := 109) dX6_refusalOf_109 rfl ?_
    exact K v106 e106 b106
  · skip
    rw [hk9, if_neg (show ¬ (4 : Int) = 0 by decide), if_neg (show ¬ (4 : Int) = 1 by decide), if_neg (show ¬ (4 : Int) = 2 by decide), if_neg (show ¬ (4 : Int) = 3 by decide), if_pos rfl] at K
    refine go_aload_n (y := mX6_refusalOf) (pc := 0) dX6_refusalOf_0 rfl rfl ?_
    refine go_getR (y := mX6_refusalOf) (pc := 1) dX6_refusalOf_1 fl_X6_9 rfl rfl (by decide) ?_
    refine go_iload_n (y := mX6_refusalOf) (pc := 4) dX6_refusalOf_4 rfl rfl ?_
    refine go_bial (y := mX6_refusalOf) (pc := 5) (k := i) dX6_refusalOf_5 rfl (by decide) (by decide) rfl (by omega) (by decide) (fun r5 => ?_)
    refine go_top (b := 4) (hk9) (fun t5 => ?_)
    refine go_tbIn (y := mX6_refusalOf) (pc := 6) (off := 104) (tgt := 110) dX6_refusalOf_6 (by decide) (by decide) (by decide) rfl (by decide) ?_
    refine go_aload_n (y := mX6_refusalOf) (pc := 110) dX6_refusalOf_110 rfl rfl ?_
    refine go_aload_n (y := mX6_refusalOf) (pc := 111) dX6_refusalOf_111 rfl rfl ?_
    refine go_getR (y := mX6_refusalOf) (pc := 112) dX6_refusalOf_112 fl_X6_21 rfl rfl (by decide) ?_
    refine go_iload_n (y := mX6_refusalOf) (pc := 115) dX6_refusalOf_115 rfl rfl ?_
    refine go_bial (y := mX6_refusalOf) (pc := 116) (k := i) dX6_refusalOf_116 rfl (by decide) (by decide) rfl (by omega) (by decide) (fun r116 => ?_)
    refine go_top (b := μ 8 i) (rfl) (fun t116 => ?_)
    refine go_callV1 (y := mX6_refusalOf) (pc := 117) (y' := mX1_refusalOfVote) (kc2 := 0) (ks2 := 0) dX6_refusalOf_117 ml_X6_160 ok_X1_refusalOfVote (ch_sh h20 0 (by decide)) ⟨_, _, rfl⟩ (ch_z (r := 0) h20 (by decide)) rfl (by decide) (Nat.le_of_ble_eq_true rfl) rfl (c_refusalOfVote h20 (by omega) hS h16 (fun v117 e117 b117 => ?_))
    refine go_ireturn (y := mX6_refusalOf) (pc := 120) dX6_refusalOf_120 rfl ?_
    exact K v117 e117 b117
  · skip
    rw [hk9, if_neg (show ¬ (5 : Int) = 0 by decide), if_neg (show ¬ (5 : Int) = 1 by decide), if_neg (show ¬ (5 : Int) = 2 by decide), if_neg (show ¬ (5 : Int) = 3 by decide), if_neg (show ¬ (5 : Int) = 4 by decide), if_pos rfl] at K
    refine go_aload_n (y := mX6_refusalOf) (pc := 0) dX6_refusalOf_0 rfl rfl ?_
    refine go_getR (y := mX6_refusalOf) (pc := 1) dX6_refusalOf_1 fl_X6_9 rfl rfl (by decide) ?_
    refine go_iload_n (y := mX6_refusalOf) (pc := 4) dX6_refusalOf_4 rfl rfl ?_
    refine go_bial (y := mX6_refusalOf) (pc := 5) (k := i) dX6_refusalOf_5 rfl (by decide) (by decide) rfl (by omega) (by decide) (fun r5 => ?_)
    refine go_top (b := 5) (hk9) (fun t5 => ?_)
    refine go_tbIn (y := mX6_refusalOf) (pc := 6) (off := 115) (tgt := 121) dX6_refusalOf_6 (by decide) (by decide) (by decide) rfl (by decide) ?_
    refine go_aload_n (y := mX6_refusalOf) (pc := 121) dX6_refusalOf_121 rfl rfl ?_
    refine go_aload_n (y := mX6_refusalOf) (pc := 122) dX6_refusalOf_122 rfl rfl ?_
    refine go_getR (y := mX6_refusalOf) (pc := 123) dX6_refusalOf_123 fl_X6_21 rfl rfl (by decide) ?_
    refine go_iload_n (y := mX6_refusalOf) (pc := 126) dX6_refusalOf_126 rfl rfl ?_
    refine go_bial (y := mX6_refusalOf) (pc := 127) (k := i) dX6_refusalOf_127 rfl (by decide) (by decide) rfl (by omega) (by decide) (fun r127 => ?_)
    refine go_top (b := μ 8 i) (rfl) (fun t127 => ?_)
    refine go_callV1 (y := mX6_refusalOf) (pc := 128) (y' := mX1_refusalOfWithdrawal) (kc2 := 0) (ks2 := 0) dX6_refusalOf_128 ml_X6_163 ok_X1_refusalOfWithdrawal (ch_sh h20 0 (by decide)) ⟨_, _, rfl⟩ (ch_z (r := 0) h20 (by decide)) rfl (by decide) (Nat.le_of_ble_eq_true rfl) rfl (c_refusalOfWithdrawal h20 (by omega) h16 (fun v128 e128 b128 => ?_))
    refine go_ireturn (y := mX6_refusalOf) (pc := 131) dX6_refusalOf_131 rfl ?_
    exact K v128 e128 b128
  · skip
    rw [hk9, if_neg (show ¬ (6 : Int) = 0 by decide), if_neg (show ¬ (6 : Int) = 1 by decide), if_neg (show ¬ (6 : Int) = 2 by decide), if_neg (show ¬ (6 : Int) = 3 by decide), if_neg (show ¬ (6 : Int) = 4 by decide), if_neg (show ¬ (6 : Int) = 5 by decide), if_pos rfl] at K
    refine go_aload_n (y := mX6_refusalOf) (pc := 0) dX6_refusalOf_0 rfl rfl ?_
    refine go_getR (y := mX6_refusalOf) (pc := 1) dX6_refusalOf_1 fl_X6_9 rfl rfl (by decide) ?_
    refine go_iload_n (y := mX6_refusalOf) (pc := 4) dX6_refusalOf_4 rfl rfl ?_
    refine go_bial (y := mX6_refusalOf) (pc := 5) (k := i) dX6_refusalOf_5 rfl (by decide) (by decide) rfl (by omega) (by decide) (fun r5 => ?_)
    refine go_top (b := 6) (hk9) (fun t5 => ?_)
    refine go_tbIn (y := mX6_refusalOf) (pc := 6) (off := 126) (tgt := 132) dX6_refusalOf_6 (by decide) (by decide) (by decide) rfl (by decide) ?_
    refine go_aload_n (y := mX6_refusalOf) (pc := 132) dX6_refusalOf_132 rfl rfl ?_
    refine go_aload_n (y := mX6_refusalOf) (pc := 133) dX6_refusalOf_133 rfl rfl ?_
    refine go_getR (y := mX6_refusalOf) (pc := 134) dX6_refusalOf_134 fl_X6_15 rfl rfl (by decide) ?_
    refine go_iload_n (y := mX6_refusalOf) (pc := 137) dX6_refusalOf_137 rfl rfl ?_
    refine go_bial (y := mX6_refusalOf) (pc := 138) (k := i) dX6_refusalOf_138 rfl (by decide) (by decide) rfl (by omega) (by decide) (fun r138 => ?_)
    refine go_top (b := μ 6 i) (rfl) (fun t138 => ?_)
    refine go_callV1 (y := mX6_refusalOf) (pc := 139) (y' := mX1_refusalOfSharpening) (kc2 := 0) (ks2 := 0) dX6_refusalOf_139 ml_X6_166 ok_X1_refusalOfSharpening (ch_sh h20 0 (by decide)) ⟨_, _, rfl⟩ (ch_z (r := 0) h20 (by decide)) rfl (by decide) (Nat.le_of_ble_eq_true rfl) rfl (c_refusalOfSharpening h20 (by omega) (by omega) (fun v139 e139 b139 => ?_))
    refine go_ireturn (y := mX6_refusalOf) (pc := 142) dX6_refusalOf_142 rfl ?_
    exact K v139 e139 b139
  · skip
    rw [hk9, if_neg (show ¬ (7 : Int) = 0 by decide), if_neg (show ¬ (7 : Int) = 1 by decide), if_neg (show ¬ (7 : Int) = 2 by decide), if_neg (show ¬ (7 : Int) = 3 by decide), if_neg (show ¬ (7 : Int) = 4 by decide), if_neg (show ¬ (7 : Int) = 5 by decide), if_neg (show ¬ (7 : Int) = 6 by decide)] at K
    refine go_aload_n (y := mX6_refusalOf) (pc := 0) dX6_refusalOf_0 rfl rfl ?_
    refine go_getR (y := mX6_refusalOf) (pc := 1) dX6_refusalOf_1 fl_X6_9 rfl rfl (by decide) ?_
    refine go_iload_n (y := mX6_refusalOf) (pc := 4) dX6_refusalOf_4 rfl rfl ?_
    refine go_bial (y := mX6_refusalOf) (pc := 5) (k := i) dX6_refusalOf_5 rfl (by decide) (by decide) rfl (by omega) (by decide) (fun r5 => ?_)
    refine go_top (b := 7) (hk9) (fun t5 => ?_)
    refine go_tbOut (y := mX6_refusalOf) (pc := 6) (tgt := 143) dX6_refusalOf_6 (by omega) (by omega) (by decide) ?_
    refine go_aload_n (y := mX6_refusalOf) (pc := 143) dX6_refusalOf_143 rfl rfl ?_
    refine go_getR (y := mX6_refusalOf) (pc := 144) dX6_refusalOf_144 fl_X6_21 rfl rfl (by decide) ?_
    refine go_iload_n (y := mX6_refusalOf) (pc := 147) dX6_refusalOf_147 rfl rfl ?_
    refine go_bial (y := mX6_refusalOf) (pc := 148) (k := i) dX6_refusalOf_148 rfl (by decide) (by decide) rfl (by omega) (by decide) (fun r148 => ?_)
    refine go_top (b := μ 8 i) (rfl) (fun t148 => ?_)
    refine go_callS1 (y := mX6_refusalOf) (pc := 149) (y' := mX1_refusalOfRanking) (kc2 := 0) (ks2 := 0) dX6_refusalOf_149 ml_X6_169 ok_X1_refusalOfRanking rfl (by decide) (Nat.le_of_ble_eq_true rfl) rfl (c_refusalOfRanking (by omega) (fun v149 e149 b149 => ?_))
    refine go_ireturn (y := mX6_refusalOf) (pc := 152) dX6_refusalOf_152 rfl ?_
    exact K v149 e149 b149
set_option maxRecDepth 8000 in
set_option maxHeartbeats 4000000 in
theorem r_perform {i : Nat} (hi : i < 30) (hk : 0 ≤ μ 5 i ∧ μ 5 i ≤ 7) (hd : μ 5 i = 1 → μ 7 i = 1 ∨ μ 7 i = -1) (hf : rfC (su μ) σ (μ 5 i) (μ 6 i) (μ 8 i) = 0) (hS : wfS (su μ)) (hC : wfC (su μ) σ) {Q : Option Value → Mem → Prop} {X : String → Mem → Prop} (K : Q none (put 20 (pfC (su μ) σ (μ 5 i) (μ 6 i) (μ 7 i) (μ 8 i)) μ)) : mt 276 5 0 0 mX6_perform [.ref 4, .ref 20, .int (iI (i : Nat))] Q X (put 20 σ μ) := by
  show go 276 5 0 0 mX6_perform Q X 0 [.ref 4, .ref 20, .int (iI (i : Nat))] [] _
  obtain ⟨n1, n12, c1, c4⟩ := wf_n hS
  obtain ⟨q0, h16, h11, h12⟩ := wf_r hS hC
  have hk9 : μ 5 i = 0 ∨ μ 5 i = 1 ∨ μ 5 i = 2 ∨ μ 5 i = 3 ∨ μ 5 i = 4 ∨ μ 5 i = 5 ∨ μ 5 i = 6 ∨ μ 5 i = 7 := by omega
  unfold pfC at K
  unfold rfC at hf
  rcases hk9 with hk9 | hk9 | hk9 | hk9 | hk9 | hk9 | hk9 | hk9
  · skip
    rw [hk9, if_pos rfl] at K hf
    obtain ⟨g1, g2, g3⟩ := rfMo_0 hf
    refine go_aload_n (y := mX6_perform) (pc := 0) dX6_perform_0 rfl rfl ?_
    refine go_getR (y := mX6_perform) (pc := 1) dX6_perform_1 fl_X6_9 rfl rfl (by decide) ?_
    refine go_iload_n (y := mX6_perform) (pc := 4) dX6_perform_4 rfl rfl ?_
    refine go_bial (y := mX6_perform) (pc := 5) (k := i) dX6_perform_5 rfl (by decide) (by decide) rfl (by omega) (by decide) (fun r5 => ?_)
    refine go_top (b := 0) (hk9) (fun t5 => ?_)
    refine go_tbIn (y := mX6_perform) (pc := 6) (off := 42) (tgt := 48) dX6_perform_6 (by decide) (by decide) (by decide) rfl (by decide) ?_
    refine go_aload_n (y := mX6_perform) (pc := 48) dX6_perform_48 rfl rfl ?_
    refine go_aload_n (y := mX6_perform) (pc := 49) dX6_perform_49 rfl rfl ?_
    refine go_getR (y := mX6_perform) (pc := 50) dX6_perform_50 fl_X6_15 rfl rfl (by decide) ?_
    refine go_iload_n (y := mX6_perform) (pc := 53) dX6_perform_53 rfl rfl ?_
    refine go_bial (y := mX6_perform) (pc := 54) (k := i) dX6_perform_54 rfl (by decide) (by decide) rfl (by omega) (by decide) (fun r54 => ?_)
    refine go_top (b := μ 6 i) (rfl) (fun t54 => ?_)
    refine go_aload_n (y := mX6_perform) (pc := 55) dX6_perform_55 rfl rfl ?_
    refine go_getR (y := mX6_perform) (pc := 56) dX6_perform_56 fl_X6_21 rfl rfl (by decide) ?_
    refine go_iload_n (y := mX6_perform) (pc := 59) dX6_perform_59 rfl rfl ?_
    refine go_bial (y := mX6_perform) (pc := 60) (k := i) dX6_perform_60 rfl (by decide) (by decide) rfl (by omega) (by decide) (fun r60 => ?_)
    refine go_top (b := μ 8 i) (rfl) (fun t60 => ?_)
    refine go_callV2 (y := mX6_perform) (pc := 61) (y' := mX1_addMotion) (kc2 := 0) (ks2 := 0) dX6_perform_61 ml_X6_172 ok_X1_addMotion (ch_sh h20 0 (by decide)) ⟨_, _, rfl⟩ (ch_z (r := 0) h20 (by decide)) ⟨rfl, rfl⟩ (by decide) (Nat.le_of_ble_eq_true rfl) rfl (c_addMotion h20 (by omega) (by omega) hS (by omega) (by omega) ?_)
    refine go_pop (y := mX6_perform) (pc := 64) dX6_perform_64 rfl ?_
    refine go_goto (y := mX6_perform) (pc := 65) (tgt := 178) dX6_perform_65 (by decide) ?_
    refine go_return (y := mX6_perform) (pc := 178) dX6_perform_178 rfl ?_
    exact K
  · skip
    rw [hk9, if_neg (show ¬ (1 : Int) = 0 by decide), if_pos rfl] at K hf
    obtain ⟨g1, g2, g3⟩ := rfRq_0 hf
    have hd9 := hd hk9
    have h1112 : σ 11 0 < 12 := by
      have e6 : μ 6 i = (((μ 6 i).toNat : Nat) : Int) := by omega
      have e8 : μ 8 i = (((μ 8 i).toNat : Nat) : Int) := by omega
      rw [e6] at g3
      have w := (wf_rad (m := (μ 6 i).toNat) (q := (μ 8 i).toNat) (d := 1) hS hC (by omega) (by omega) (by omega) g3).1.2.2.2.1
      have e : rad σ (((μ 6 i).toNat : Nat) : Int) (((μ 8 i).toNat : Nat) : Int) 1 11 0 = σ 11 0 + 1 := wr_s _ _ _ _
      omega
    refine go_aload_n (y := mX6_perform) (pc := 0) dX6_perform_0 rfl rfl ?_
    refine go_getR (y := mX6_perform) (pc := 1) dX6_perform_1 fl_X6_9 rfl rfl (by decide) ?_
    refine go_iload_n (y := mX6_perform) (pc := 4) dX6_perform_4 rfl rfl ?_
    refine go_bial (y := mX6_perform) (pc := 5) (k := i) dX6_perform_5 rfl (by decide) (by decide) rfl (by omega) (by decide) (fun r5 => ?_)
    refine go_top (b := 1) (hk9) (fun t5 => ?_)
    refine go_tbIn (y := mX6_perform) (pc := 6) (off := 62) (tgt := 68) dX6_perform_6 (by decide) (by decide) (by decide) rfl (by decide) ?_
    refine go_aload_n (y := mX6_perform) (pc := 68) dX6_perform_68 rfl rfl ?_
    refine go_getR (y := mX6_perform) (pc := 69) dX6_perform_69 fl_X6_175 (ch_sh h20 0 (by decide)) rfl (ch_z (r := 0) h20 (by decide)) ?_
    refine go_aload_n (y := mX6_perform) (pc := 72) dX6_perform_72 rfl rfl ?_
    refine go_getR (y := mX6_perform) (pc := 73) dX6_perform_73 fl_X6_15 rfl rfl (by decide) ?_
    refine go_iload_n (y := mX6_perform) (pc := 76) dX6_perform_76 rfl rfl ?_
    refine go_bial (y := mX6_perform) (pc := 77) (k := i) dX6_perform_77 rfl (by decide) (by decide) rfl (by omega) (by decide) (fun r77 => ?_)
    refine go_top (b := μ 6 i) (rfl) (fun t77 => ?_)
    refine go_aload_n (y := mX6_perform) (pc := 78) dX6_perform_78 rfl rfl ?_
    refine go_getR (y := mX6_perform) (pc := 79) dX6_perform_79 fl_X6_21 rfl rfl (by decide) ?_
    refine go_iload_n (y := mX6_perform) (pc := 82) dX6_perform_82 rfl rfl ?_
    refine go_bial (y := mX6_perform) (pc := 83) (k := i) dX6_perform_83 rfl (by decide) (by decide) rfl (by omega) (by decide) (fun r83 => ?_)
    refine go_top (b := μ 8 i) (rfl) (fun t83 => ?_)
    refine go_aload_n (y := mX6_perform) (pc := 84) dX6_perform_84 rfl rfl ?_
    refine go_getR (y := mX6_perform) (pc := 85) dX6_perform_85 fl_X6_18 rfl rfl (by decide) ?_
    refine go_iload_n (y := mX6_perform) (pc := 88) dX6_perform_88 rfl rfl ?_
    refine go_bial (y := mX6_perform) (pc := 89) (k := i) dX6_perform_89 rfl (by decide) (by decide) rfl (by omega) (by decide) (fun r89 => ?_)
    refine go_top (b := μ 7 i) (rfl) (fun t89 => ?_)
    refine go_callV3 (y := mX6_perform) (pc := 90) (y' := mX5_add) (kc2 := 0) (ks2 := 0) dX6_perform_90 ml_X6_179 ok_X5_add (ch_sh h20 11 (by decide)) ⟨_, _, rfl⟩ (ch_z (r := 11) h20 (by decide)) ⟨rfl, rfl, rfl⟩ (by decide) (Nat.le_of_ble_eq_true rfl) rfl (c_add h20 (by omega) (by omega) (by omega) (by omega) (by omega) ?_)
    refine go_pop (y := mX6_perform) (pc := 93) dX6_perform_93 rfl ?_
    refine go_goto (y := mX6_perform) (pc := 94) (tgt := 178) dX6_perform_94 (by decide) ?_
    refine go_return (y := mX6_perform) (pc := 178) dX6_perform_178 rfl ?_
    exact K
  · skip
    rw [hk9, if_neg (show ¬ (2 : Int) = 0 by decide), if_neg (show ¬ (2 : Int) = 1 by decide), if_pos rfl] at K hf
    obtain ⟨g1, g2, g3, g4, g5⟩ := rfRb_0 hf
    refine go_aload_n (y := mX6_perform) (pc := 0) dX6_perform_0 rfl rfl ?_
    refine go_getR (y := mX6_perform) (pc := 1) dX6_perform_1 fl_X6_9 rfl rfl (by decide) ?_
    refine go_iload_n (y := mX6_perform) (pc := 4) dX6_perform_4 rfl rfl ?_
    refine go_bial (y := mX6_perform) (pc := 5) (k := i) dX6_perform_5 rfl (by decide) (by decide) rfl (by omega) (by decide) (fun r5 => ?_)
    refine go_top (b := 2) (hk9) (fun t5 => ?_)
    refine go_tbIn (y := mX6_perform) (pc := 6) (off := 91) (tgt := 97) dX6_perform_6 (by decide) (by decide) (by decide) rfl (by decide) ?_
    refine go_aload_n (y := mX6_perform) (pc := 97) dX6_perform_97 rfl rfl ?_
    refine go_aload_n (y := mX6_perform) (pc := 98) dX6_perform_98 rfl rfl ?_
    refine go_getR (y := mX6_perform) (pc := 99) dX6_perform_99 fl_X6_21 rfl rfl (by decide) ?_
    refine go_iload_n (y := mX6_perform) (pc := 102) dX6_perform_102 rfl rfl ?_
    refine go_bial (y := mX6_perform) (pc := 103) (k := i) dX6_perform_103 rfl (by decide) (by decide) rfl (by omega) (by decide) (fun r103 => ?_)
    refine go_top (b := (((μ 8 i).toNat : Nat) : Int)) ((by omega)) (fun t103 => ?_)
    refine go_callV1 (y := mX6_perform) (pc := 104) (y' := mX1_addRebuttal) (kc2 := 0) (ks2 := 0) dX6_perform_104 ml_X6_185 ok_X1_addRebuttal (ch_sh h20 0 (by decide)) ⟨_, _, rfl⟩ (ch_z (r := 0) h20 (by decide)) rfl (by decide) (Nat.le_of_ble_eq_true rfl) rfl (c_addRebuttal h20 (h := ((μ 8 i).toNat)) (by omega) ?_)
    refine go_pop (y := mX6_perform) (pc := 107) dX6_perform_107 rfl ?_
    refine go_goto (y := mX6_perform) (pc := 108) (tgt := 178) dX6_perform_108 (by decide) ?_
    refine go_return (y := mX6_perform) (pc := 178) dX6_perform_178 rfl ?_
    exact K
  · skip
    rw [hk9, if_neg (show ¬ (3 : Int) = 0 by decide), if_neg (show ¬ (3 : Int) = 1 by decide), if_neg (show ¬ (3 : Int) = 2 by decide), if_pos rfl] at K hf
    have g := rfWt_0 hf
    refine go_aload_n (y := mX6_perform) (pc := 0) dX6_perform_0 rfl rfl ?_
    refine go_getR (y := mX6_perform) (pc := 1) dX6_perform_1 fl_X6_9 rfl rfl (by decide) ?_
    refine go_iload_n (y := mX6_perform) (pc := 4) dX6_perform_4 rfl rfl ?_
    refine go_bial (y := mX6_perform) (pc := 5) (k := i) dX6_perform_5 rfl (by decide) (by decide) rfl (by omega) (by decide) (fun r5 => ?_)
    refine go_top (b := 3) (hk9) (fun t5 => ?_)
    refine go_tbIn (y := mX6_perform) (pc := 6) (off := 105) (tgt := 111) dX6_perform_6 (by decide) (by decide) (by decide) rfl (by decide) ?_
    refine go_aload_n (y := mX6_perform) (pc := 111) dX6_perform_111 rfl rfl ?_
    refine go_aload_n (y := mX6_perform) (pc := 112) dX6_perform_112 rfl rfl ?_
    refine go_getR (y := mX6_perform) (pc := 113) dX6_perform_113 fl_X6_21 rfl rfl (by decide) ?_
    refine go_iload_n (y := mX6_perform) (pc := 116) dX6_perform_116 rfl rfl ?_
    refine go_bial (y := mX6_perform) (pc := 117) (k := i) dX6_perform_117 rfl (by decide) (by decide) rfl (by omega) (by decide) (fun r117 => ?_)
    refine go_top (b := (((μ 8 i).toNat : Nat) : Int)) ((by omega)) (fun t117 => ?_)
    refine go_callV1 (y := mX6_perform) (pc := 118) (y' := mX1_passMinutes) (kc2 := 0) (ks2 := 0) dX6_perform_118 ml_X6_188 ok_X1_passMinutes (ch_sh h20 0 (by decide)) ⟨_, _, rfl⟩ (ch_z (r := 0) h20 (by decide)) rfl (by decide) (Nat.le_of_ble_eq_true rfl) rfl (c_passMinutes h20 hS hC (n := ((μ 8 i).toNat)) (by omega) ?_)
    refine go_pop (y := mX6_perform) (pc := 121) dX6_perform_121 rfl ?_
    refine go_goto (y := mX6_perform) (pc := 122) (tgt := 178) dX6_perform_122 (by decide) ?_
    refine go_return (y := mX6_perform) (pc := 178) dX6_perform_178 rfl ?_
    exact K
  · skip
    rw [hk9, if_neg (show ¬ (4 : Int) = 0 by decide), if_neg (show ¬ (4 : Int) = 1 by decide), if_neg (show ¬ (4 : Int) = 2 by decide), if_neg (show ¬ (4 : Int) = 3 by decide), if_pos rfl] at K hf
    have g := rfVt_0 hf
    refine go_aload_n (y := mX6_perform) (pc := 0) dX6_perform_0 rfl rfl ?_
    refine go_getR (y := mX6_perform) (pc := 1) dX6_perform_1 fl_X6_9 rfl rfl (by decide) ?_
    refine go_iload_n (y := mX6_perform) (pc := 4) dX6_perform_4 rfl rfl ?_
    refine go_bial (y := mX6_perform) (pc := 5) (k := i) dX6_perform_5 rfl (by decide) (by decide) rfl (by omega) (by decide) (fun r5 => ?_)
    refine go_top (b := 4) (hk9) (fun t5 => ?_)
    refine go_tbIn (y := mX6_perform) (pc := 6) (off := 119) (tgt := 125) dX6_perform_6 (by decide) (by decide) (by decide) rfl (by decide) ?_
    refine go_aload_n (y := mX6_perform) (pc := 125) dX6_perform_125 rfl rfl ?_
    refine go_aload_n (y := mX6_perform) (pc := 126) dX6_perform_126 rfl rfl ?_
    refine go_getR (y := mX6_perform) (pc := 127) dX6_perform_127 fl_X6_21 rfl rfl (by decide) ?_
    refine go_iload_n (y := mX6_perform) (pc := 130) dX6_perform_130 rfl rfl ?_
    refine go_bial (y := mX6_perform) (pc := 131) (k := i) dX6_perform_131 rfl (by decide) (by decide) rfl (by omega) (by decide) (fun r131 => ?_)
    refine go_top (b := (((μ 8 i).toNat : Nat) : Int)) ((by omega)) (fun t131 => ?_)
    refine go_callV1 (y := mX6_perform) (pc := 132) (y' := mX1_holdVote) (kc2 := 0) (ks2 := 0) dX6_perform_132 ml_X6_191 ok_X1_holdVote (ch_sh h20 0 (by decide)) ⟨_, _, rfl⟩ (ch_z (r := 0) h20 (by decide)) rfl (by decide) (Nat.le_of_ble_eq_true rfl) rfl (c_holdVote h20 (q := ((μ 8 i).toNat)) (by omega) hS (by omega) (by omega) ?_)
    refine go_pop (y := mX6_perform) (pc := 135) dX6_perform_135 rfl ?_
    refine go_goto (y := mX6_perform) (pc := 136) (tgt := 178) dX6_perform_136 (by decide) ?_
    refine go_return (y := mX6_perform) (pc := 178) dX6_perform_178 rfl ?_
    exact K
  · skip
    rw [hk9, if_neg (show ¬ (5 : Int) = 0 by decide), if_neg (show ¬ (5 : Int) = 1 by decide), if_neg (show ¬ (5 : Int) = 2 by decide), if_neg (show ¬ (5 : Int) = 3 by decide), if_neg (show ¬ (5 : Int) = 4 by decide), if_pos rfl] at K hf
    have g := rfWd_0 hf
    refine go_aload_n (y := mX6_perform) (pc := 0) dX6_perform_0 rfl rfl ?_
    refine go_getR (y := mX6_perform) (pc := 1) dX6_perform_1 fl_X6_9 rfl rfl (by decide) ?_
    refine go_iload_n (y := mX6_perform) (pc := 4) dX6_perform_4 rfl rfl ?_
    refine go_bial (y := mX6_perform) (pc := 5) (k := i) dX6_perform_5 rfl (by decide) (by decide) rfl (by omega) (by decide) (fun r5 => ?_)
    refine go_top (b := 5) (hk9) (fun t5 => ?_)
    refine go_tbIn (y := mX6_perform) (pc := 6) (off := 133) (tgt := 139) dX6_perform_6 (by decide) (by decide) (by decide) rfl (by decide) ?_
    refine go_aload_n (y := mX6_perform) (pc := 139) dX6_perform_139 rfl rfl ?_
    refine go_aload_n (y := mX6_perform) (pc := 140) dX6_perform_140 rfl rfl ?_
    refine go_getR (y := mX6_perform) (pc := 141) dX6_perform_141 fl_X6_21 rfl rfl (by decide) ?_
    refine go_iload_n (y := mX6_perform) (pc := 144) dX6_perform_144 rfl rfl ?_
    refine go_bial (y := mX6_perform) (pc := 145) (k := i) dX6_perform_145 rfl (by decide) (by decide) rfl (by omega) (by decide) (fun r145 => ?_)
    refine go_top (b := (((μ 8 i).toNat : Nat) : Int)) ((by omega)) (fun t145 => ?_)
    refine go_iconst (y := mX6_perform) (pc := 146) dX6_perform_146 ?_
    refine go_callV2 (y := mX6_perform) (pc := 147) (y' := mX1_closeMotion) (kc2 := 0) (ks2 := 0) dX6_perform_147 ml_X6_195 ok_X1_closeMotion (ch_sh h20 0 (by decide)) ⟨_, _, rfl⟩ (ch_z (r := 0) h20 (by decide)) ⟨rfl, rfl⟩ (by decide) (Nat.le_of_ble_eq_true rfl) rfl (c_closeMotion h20 (q := ((μ 8 i).toNat)) (by omega) (by omega) (by omega) (by omega) ?_)
    refine go_pop (y := mX6_perform) (pc := 150) dX6_perform_150 rfl ?_
    refine go_goto (y := mX6_perform) (pc := 151) (tgt := 178) dX6_perform_151 (by decide) ?_
    refine go_return (y := mX6_perform) (pc := 178) dX6_perform_178 rfl ?_
    exact K
  · skip
    rw [hk9, if_neg (show ¬ (6 : Int) = 0 by decide), if_neg (show ¬ (6 : Int) = 1 by decide), if_neg (show ¬ (6 : Int) = 2 by decide), if_neg (show ¬ (6 : Int) = 3 by decide), if_neg (show ¬ (6 : Int) = 4 by decide), if_neg (show ¬ (6 : Int) = 5 by decide), if_pos rfl] at K hf
    obtain ⟨g, g2⟩ := rfSh_0 hf
    refine go_aload_n (y := mX6_perform) (pc := 0) dX6_perform_0 rfl rfl ?_
    refine go_getR (y := mX6_perform) (pc := 1) dX6_perform_1 fl_X6_9 rfl rfl (by decide) ?_
    refine go_iload_n (y := mX6_perform) (pc := 4) dX6_perform_4 rfl rfl ?_
    refine go_bial (y := mX6_perform) (pc := 5) (k := i) dX6_perform_5 rfl (by decide) (by decide) rfl (by omega) (by decide) (fun r5 => ?_)
    refine go_top (b := 6) (hk9) (fun t5 => ?_)
    refine go_tbIn (y := mX6_perform) (pc := 6) (off := 148) (tgt := 154) dX6_perform_6 (by decide) (by decide) (by decide) rfl (by decide) ?_
    refine go_aload_n (y := mX6_perform) (pc := 154) dX6_perform_154 rfl rfl ?_
    refine go_aload_n (y := mX6_perform) (pc := 155) dX6_perform_155 rfl rfl ?_
    refine go_getR (y := mX6_perform) (pc := 156) dX6_perform_156 fl_X6_15 rfl rfl (by decide) ?_
    refine go_iload_n (y := mX6_perform) (pc := 159) dX6_perform_159 rfl rfl ?_
    refine go_bial (y := mX6_perform) (pc := 160) (k := i) dX6_perform_160 rfl (by decide) (by decide) rfl (by omega) (by decide) (fun r160 => ?_)
    refine go_top (b := (((μ 6 i).toNat : Nat) : Int)) ((by omega)) (fun t160 => ?_)
    refine go_callV1 (y := mX6_perform) (pc := 161) (y' := mX1_sharpenRazor) (kc2 := 0) (ks2 := 0) dX6_perform_161 ml_X6_198 ok_X1_sharpenRazor (ch_sh h20 0 (by decide)) ⟨_, _, rfl⟩ (ch_z (r := 0) h20 (by decide)) rfl (by decide) (Nat.le_of_ble_eq_true rfl) rfl (c_sharpenRazor h20 (m := ((μ 6 i).toNat)) (by omega) (by omega) ?_)
    refine go_pop (y := mX6_perform) (pc := 164) dX6_perform_164 rfl ?_
    refine go_goto (y := mX6_perform) (pc := 165) (tgt := 178) dX6_perform_165 (by decide) ?_
    refine go_return (y := mX6_perform) (pc := 178) dX6_perform_178 rfl ?_
    exact K
  · skip
    rw [hk9, if_neg (show ¬ (7 : Int) = 0 by decide), if_neg (show ¬ (7 : Int) = 1 by decide), if_neg (show ¬ (7 : Int) = 2 by decide), if_neg (show ¬ (7 : Int) = 3 by decide), if_neg (show ¬ (7 : Int) = 4 by decide), if_neg (show ¬ (7 : Int) = 5 by decide), if_neg (show ¬ (7 : Int) = 6 by decide)] at K hf
    have g := rfRk_0 hf
    refine go_aload_n (y := mX6_perform) (pc := 0) dX6_perform_0 rfl rfl ?_
    refine go_getR (y := mX6_perform) (pc := 1) dX6_perform_1 fl_X6_9 rfl rfl (by decide) ?_
    refine go_iload_n (y := mX6_perform) (pc := 4) dX6_perform_4 rfl rfl ?_
    refine go_bial (y := mX6_perform) (pc := 5) (k := i) dX6_perform_5 rfl (by decide) (by decide) rfl (by omega) (by decide) (fun r5 => ?_)
    refine go_top (b := 7) (hk9) (fun t5 => ?_)
    refine go_tbOut (y := mX6_perform) (pc := 6) (tgt := 168) dX6_perform_6 (by omega) (by omega) (by decide) ?_
    refine go_aload_n (y := mX6_perform) (pc := 168) dX6_perform_168 rfl rfl ?_
    refine go_aload_n (y := mX6_perform) (pc := 169) dX6_perform_169 rfl rfl ?_
    refine go_getR (y := mX6_perform) (pc := 170) dX6_perform_170 fl_X6_21 rfl rfl (by decide) ?_
    refine go_iload_n (y := mX6_perform) (pc := 173) dX6_perform_173 rfl rfl ?_
    refine go_bial (y := mX6_perform) (pc := 174) (k := i) dX6_perform_174 rfl (by decide) (by decide) rfl (by omega) (by decide) (fun r174 => ?_)
    refine go_top (b := μ 8 i) (rfl) (fun t174 => ?_)
    refine go_cput (y := mX6_perform) (pc := 175) (r := 0) dX6_perform_175 fp_X6_201 h20 (by decide) rfl rfl (by decide) (by omega) ?_
    refine go_return (y := mX6_perform) (pc := 178) dX6_perform_178 rfl ?_
    exact K
end CRun
