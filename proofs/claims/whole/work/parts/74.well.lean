/-! WHAT A SCRIPT IS THAT WAS READ WITHOUT AN ERROR -/
def okC (τ : Mem) (k : Nat) : Prop := (0 ≤ τ 5 k ∧ τ 5 k ≤ 8) ∧ (τ 5 k = 1 → τ 7 k = 1 ∨ τ 7 k = -1) ∧ (τ 5 k = 8 → 0 ≤ τ 8 k ∧ τ 8 k ≤ 20)
theorem okC_f {τ τ' : Mem} {k : Nat} (h : okC τ k) (hf : ∀ r, 5 ≤ r → r ≤ 8 → τ' r k = τ r k) : okC τ' k := by
  unfold okC at h ⊢
  rw [hf 5 (by decide) (by decide), hf 7 (by decide) (by decide), hf 8 (by decide) (by decide)]
  exact h
def wfr (f : Int → Int) (L : Nat) (r : Nat) (B : Blk) : Prop := ∀ x : Sta × Mem, okI f L x.2 → (B x).1.2.1 = 0 → x.1.2.1 = 0 ∧ (∃ n, wfb (B x).2 r n (x.2 4 5).toNat ((B x).2 4 5).toNat) ∧ ∀ k : Nat, (x.2 4 5).toNat ≤ k → k < ((B x).2 4 5).toNat → okC (B x).2 k
section Well
variable {f : Int → Int} {L : Nat} {B : Blk} {d : Nat}
theorem sgn_n {s : Sta} {c : Int} (h : (sgn f s c).2.1 = 0) : s.2.1 = 0 := (mus_0 (show (1 : Int) ≠ 0 by decide) h).1
theorem nmG_n {s : Sta} {μ : Mem} (h : (nmG f L s μ).2.1 = 0) : s.2.1 = 0 := by
  unfold nmG at h
  exact (nms_0 (gm_0 (show (3 : Int) ≠ 0 by decide) h).1).1
theorem opr_n {k : Int} {i : Nat} {s : Sta} {μ : Mem} (h : (opr f L k i s μ).1.2.1 = 0) : s.2.1 = 0 := by
  unfold opr at h
  by_cases h0 : k = 0
  · rw [if_pos h0] at h
    exact nmG_n (num3_0 h).1
  rw [if_neg h0] at h
  by_cases h1 : k = 1
  · rw [if_pos h1] at h
    exact nmG_n (gm_0 (show (1 : Int) ≠ 0 by decide) (num3_0 h).1).1
  rw [if_neg h1] at h
  by_cases h2 : k = 2
  · rw [if_pos h2] at h
    exact nmG_n (num3_0 h).1
  rw [if_neg h2] at h
  by_cases h3 : k = 3
  · rw [if_pos h3] at h
    exact (num3_0 h).1
  rw [if_neg h3] at h
  by_cases h6 : k = 6
  · rw [if_pos h6] at h
    exact nmG_n h
  rw [if_neg h6] at h
  by_cases h7 : k = 7
  · rw [if_pos h7] at h
    exact (gm_0 (show (1 : Int) ≠ 0 by decide) h).1
  rw [if_neg h7] at h
  by_cases h8 : k = 8
  · rw [if_pos h8] at h
    exact (num3_0 h).1
  rw [if_neg h8] at h
  exact (num3_0 h).1
theorem opr_7 {k : Int} {i : Nat} {s : Sta} {μ : Mem} (hk : k = 1) : (opr f L k i s μ).2 7 i = 1 ∨ (opr f L k i s μ).2 7 i = -1 := by
  unfold opr
  rw [hk, if_neg (by decide), if_pos rfl]
  dsimp only
  rw [wr_na (by decide), wr_s]
  unfold sdV
  split
  · exact Or.inl rfl
  · exact Or.inr rfl
theorem opr_8 {k : Int} {i : Nat} {s : Sta} {μ : Mem} (hk : k = 8) (h : (opr f L k i s μ).1.2.1 = 0) : 0 ≤ (opr f L k i s μ).2 8 i ∧ (opr f L k i s μ).2 8 i ≤ 20 := by
  unfold opr at h ⊢
  rw [hk, if_neg (by decide), if_neg (by decide), if_neg (by decide), if_neg (by decide), if_neg (by decide), if_neg (by decide), if_pos rfl] at h ⊢
  dsimp only at h ⊢
  rw [wr_s, tkn3_0 h]
  exact (num3_0 h).2.2
theorem wr_cmd (hP : pvB f L B) (hF : frB f L B) (hW : d < 2 → wfr f L (1 - d) B) : wfr f L (2 - d) (cmd f L B d) := by
  intro x h h0
  have h4 := h.2.2
  unfold cmd at h0 ⊢
  by_cases k1 : kwV f L x.1 = -1
  · rw [if_pos k1] at h0
    exact absurd (gm_0 (show (1 : Int) ≠ 0 by decide) h0).2 (by decide)
  by_cases k2 : 30 ≤ x.2 4 5
  · rw [if_neg k1, if_pos k2] at h0
    exact absurd (gm_0 (show (4 : Int) ≠ 0 by decide) h0).2 (by decide)
  rw [if_neg k1, if_neg k2] at h0 ⊢
  dsimp only at h0 ⊢
  obtain ⟨g1, g2, g3, g4⟩ := cm3_fr (d := d) hF h (by omega)
  obtain ⟨p1, p2, p3⟩ := pv_cm3 (d := d) hP h (by omega)
  have hI2 : okI f L (cm2 f L x).2 := okI_opr (okI_cm1 h (by omega))
  have kb := kwV_b (f := f) (L := L) (s := x.1)
  obtain ⟨c0, ec⟩ : ∃ c0, c0 = (x.2 4 5).toNat := ⟨_, rfl⟩
  have e5 := cm2_5 (f := f) (L := L) (x := x)
  have e4 := cm2_4 (f := f) (L := L) (x := x)
  rw [← ec] at e5
  have key : (cm2 f L x).1.2.1 = 0 ∧ ((kwV f L x.1 = 8 ∧ d < 2 ∧ (∃ n, wfb (cm3 f L B d x).2 (1 - d) n (c0 + 1) ((cm3 f L B d x).2 4 5).toNat) ∧ ∀ k : Nat, c0 + 1 ≤ k → k < ((cm3 f L B d x).2 4 5).toNat → okC (cm3 f L B d x).2 k) ∨ (kwV f L x.1 ≠ 8 ∧ (cm3 f L B d x).2 4 5 = x.2 4 5 + 1)) := by
    unfold cm3 at h0 ⊢
    by_cases k8 : kwV f L x.1 = 8
    · rw [if_pos k8] at h0 ⊢
      unfold brS at h0 ⊢
      by_cases d2 : 2 ≤ d
      · rw [if_pos d2] at h0
        exact (gm_0 (show (4 : Int) ≠ 0 by decide) h0).2.elim
      · rw [if_neg d2] at h0 ⊢
        obtain ⟨w1, w2, w3⟩ := hW (by omega) (gon f L (sgn f (cm2 f L x).1 40), (cm2 f L x).2) hI2 (sgn_n (gon_0 h0))
        have ea : ((gon f L (sgn f (cm2 f L x).1 40), (cm2 f L x).2).2 4 5).toNat = c0 + 1 := by
          show ((cm2 f L x).2 4 5).toNat = c0 + 1
          omega
        rw [ea] at w2 w3
        exact ⟨sgn_n (gon_0 w1), Or.inl ⟨k8, by omega, w2, w3⟩⟩
    · rw [if_neg k8] at h0 ⊢
      exact ⟨h0, Or.inr ⟨k8, e4⟩⟩
  obtain ⟨s2, key⟩ := key
  have sx : x.1.2.1 = 0 := by
    unfold cm2 at s2
    exact gon_0 (opr_n s2)
  rw [← ec, wr_na (show (4 : Nat) ≠ 9 by decide)]
  have q5 : wr (cm3 f L B d x).2 9 c0 ((cm3 f L B d x).2 4 5) 5 c0 = kwV f L x.1 := by
    rw [wr_na (by decide), g2 5 c0 (by decide) (by decide) (by omega)]
    exact e5
  have q9 : wr (cm3 f L B d x).2 9 c0 ((cm3 f L B d x).2 4 5) 9 c0 = (cm3 f L B d x).2 4 5 := wr_s _ _ _ _
  have oc : okC (wr (cm3 f L B d x).2 9 c0 ((cm3 f L B d x).2 4 5)) c0 := by
    unfold okC
    rw [q5, wr_na (show (7 : Nat) ≠ 9 by decide), wr_na (show (8 : Nat) ≠ 9 by decide), g2 7 c0 (by decide) (by decide) (by omega), g2 8 c0 (by decide) (by decide) (by omega)]
    refine ⟨by omega, fun w => ?_, fun w => ?_⟩
    · unfold cm2
      rw [← ec]
      exact opr_7 w
    · unfold cm2 at s2 ⊢
      rw [← ec] at s2 ⊢
      exact opr_8 w s2
  refine ⟨sx, ?_, fun k hk1 hk2 => ?_⟩
  · rcases key with ⟨k8, d2, ⟨n, w⟩, -⟩ | ⟨k8, w⟩
    · refine ⟨n + 1, Or.inr ⟨by omega, Or.inr ⟨q5.trans k8, by omega, ((cm3 f L B d x).2 4 5).toNat, by omega, Nat.le_refl _, ?_, ?_, wfb_0 (Nat.le_refl _) n⟩⟩⟩
      · rw [q9]
        omega
      · rw [show 2 - d - 1 = 1 - d by omega]
        exact wfb_f (fun k h1 h2 => ⟨wr_na (by decide), wr_n (by omega)⟩) w
    · refine ⟨1, Or.inr ⟨by omega, Or.inl ⟨by rw [q5]; exact k8, ?_, ?_⟩⟩⟩
      · rw [q9, w]
        omega
      · exact wfb_0 (by omega) 0
  · by_cases e : k = c0
    · rw [e]
      exact oc
    · rcases key with ⟨k8, d2, -, w⟩ | ⟨k8, w⟩
      · exact okC_f (w k (by omega) hk2) (fun r h5 h8 => wr_na (by omega))
      · omega
theorem wr_cms (hP : pvB f L B) (hF : frB f L B) (hW : d < 2 → wfr f L (1 - d) B) : wfr f L (2 - d) (cms f L B d) := fun x h h0 => wr_cmd hP hF hW x h (sgn_n (gon_0 h0))
theorem wr_blk (hP : pvB f L B) (hF : frB f L B) (hW : d < 2 → wfr f L (1 - d) B) : ∀ n : Nat, wfr f L (2 - d) (blk f L B d n)
  | 0, x, h, h0 => ⟨h0, ⟨0, Nat.le_refl _⟩, fun k h1 h2 => absurd (Nat.lt_of_le_of_lt h1 h2) (Nat.lt_irrefl _)⟩
  | n + 1, x, h, h0 => by
    rw [blk] at h0 ⊢
    by_cases g : x.1.2.1 = 0 ∧ tkK f x.1.1 = 1
    · rw [if_pos g] at h0 ⊢
      have hI := pv_cms (d := d) hP x h
      obtain ⟨a1, ⟨n1, a2⟩, a3⟩ := wr_blk hP hF hW n (cms f L B d x) hI h0
      obtain ⟨b1, ⟨n2, b2⟩, b3⟩ := wr_cms hP hF hW x h a1
      obtain ⟨k1, k2, k3, k4⟩ := fr_blk (d := d) hP hF n (cms f L B d x) hI
      obtain ⟨j1, -, -, -⟩ := fr_cms (d := d) hF x h
      refine ⟨b1, ⟨n2 + n1, wfb_a (wfb_f (fun k _ hk => ⟨k2 5 k (by decide) (by decide) (by omega), k2 9 k (by decide) (by decide) (by omega)⟩) b2) (by omega) (by omega) a2⟩, fun k h1 h2 => ?_⟩
      by_cases q : (k : Int) < (cms f L B d x).2 4 5
      · exact okC_f (b3 k h1 (by omega)) (fun r h5 h8 => k2 r k h5 (by omega) q)
      · exact a3 k (by omega) h2
    · rw [if_neg g] at h0 ⊢
      exact ⟨h0, ⟨0, Nat.le_refl _⟩, fun k h1 h2 => absurd (Nat.lt_of_le_of_lt h1 h2) (Nat.lt_irrefl _)⟩
theorem wr_0 : wfr f L 0 (bk0 f L) := wr_blk (d := 2) pv_m fr_m (fun w => absurd w (by decide)) 31
theorem wr_1 : wfr f L 1 (bk1 f L) := wr_blk (d := 1) pv_0 fr_0 (fun _ => wr_0) 31
theorem wr_2 : wfr f L 2 (bk2 f L) := wr_blk (d := 0) pv_1 fr_1 (fun _ => wr_1) 31
end Well
theorem one_f {τ τ' S : Mem} (h : ∀ r k : Nat, 5 ≤ r → r ≤ 9 → τ' r k = τ r k) {i : Nat} {x : Rst} : one τ' S i x = one τ S i x := by
  unfold one
  rw [h 5 i (by decide) (by decide), h 6 i (by decide) (by decide), h 7 i (by decide) (by decide), h 8 i (by decide) (by decide)]
theorem rnB_f {τ τ' S : Mem} (h : ∀ r k : Nat, 5 ≤ r → r ≤ 9 → τ' r k = τ r k) : ∀ (n a b : Nat) (x : Rst), rnB τ' S n a b x = rnB τ S n a b x
  | 0, _, _, _ => rfl
  | n + 1, a, b, x => by
    have e : ∀ a b, rnB τ' S n a b = rnB τ S n a b := fun a b => funext (rnB_f h n a b)
    rw [rnB, rnB, h 5 a (by decide) (by decide), h 8 a (by decide) (by decide), h 9 a (by decide) (by decide), e, e, e, one_f h]
