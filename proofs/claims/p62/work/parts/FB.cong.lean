/-! THE MINUTES of two chambers that read the same -/
def iR (r j : Nat) : Prop := (r = 5 ∧ j = 0) ∨ (r = 11 ∧ j = 0) ∨ (r = 0 ∧ 5 ≤ j ∧ j < 11) ∨ ((r = 2 ∨ r = 3 ∨ r = 4 ∨ r = 12 ∨ r = 13 ∨ r = 14) ∧ j < 12) ∨ ((6 ≤ r ∧ r ≤ 9) ∧ j < 16) ∨ (r = 10 ∧ j < 192) ∨ ((16 ≤ r ∧ r ≤ 20) ∧ j < 4)
def eqR (t s : Mem) : Prop := ∀ r j, iR r j → t r j = s r j
theorem eqR_of {t s : Mem} (h : eqC t s) : eqR t s := by
  intro r j hr
  obtain ⟨⟨h1, h2, h3⟩, h4, h5, h6, h7⟩ := h
  rcases hr with ⟨rfl, rfl⟩ | ⟨rfl, rfl⟩ | ⟨rfl, a, b⟩ | ⟨a, b⟩ | ⟨a, b⟩ | ⟨rfl, b⟩ | ⟨a, b⟩
  · exact h1
  · exact h2
  · exact h3 j a b
  · have := h4 j b
    rcases a with rfl | rfl | rfl | rfl | rfl | rfl
    · exact this.1
    · exact this.2.1
    · exact this.2.2.1
    · exact this.2.2.2.1
    · exact this.2.2.2.2.1
    · exact this.2.2.2.2.2
  · have := h5 j b
    rcases (show r = 6 ∨ r = 7 ∨ r = 8 ∨ r = 9 by omega) with rfl | rfl | rfl | rfl
    · exact this.1
    · exact this.2.1
    · exact this.2.2.1
    · exact this.2.2.2
  · exact h6 j b
  · have := h7 j b
    rcases (show r = 16 ∨ r = 17 ∨ r = 18 ∨ r = 19 ∨ r = 20 by omega) with rfl | rfl | rfl | rfl | rfl
    · exact this.1
    · exact this.2.1
    · exact this.2.2.1
    · exact this.2.2.2.1
    · exact this.2.2.2.2
theorem eqC_R {t s : Mem} (h : eqR t s) : eqC t s :=
  ⟨⟨h _ _ (by unfold iR; omega), h _ _ (by unfold iR; omega), fun j a b => h _ _ (by unfold iR; omega)⟩,
    fun j a => ⟨h _ _ (by unfold iR; omega), h _ _ (by unfold iR; omega), h _ _ (by unfold iR; omega), h _ _ (by unfold iR; omega), h _ _ (by unfold iR; omega), h _ _ (by unfold iR; omega)⟩,
    fun j a => ⟨h _ _ (by unfold iR; omega), h _ _ (by unfold iR; omega), h _ _ (by unfold iR; omega), h _ _ (by unfold iR; omega)⟩, fun j a => h _ _ (by unfold iR; omega),
    fun j a => ⟨h _ _ (by unfold iR; omega), h _ _ (by unfold iR; omega), h _ _ (by unfold iR; omega), h _ _ (by unfold iR; omega), h _ _ (by unfold iR; omega)⟩⟩
section Cong
variable {S s t : Mem}
theorem eqR_wr {a i : Nat} {v : Int} (h : eqR t s) : eqR (wr t a i v) (wr s a i v) := by
  intro r j hr
  unfold wr
  by_cases g : r = a ∧ j = i
  · rw [if_pos g, if_pos g]
  · rw [if_neg g, if_neg g]; exact h r j hr
theorem eqR_wv {a i : Nat} {u v : Int} (h : eqR t s) (e : u = v) : eqR (wr t a i u) (wr s a i v) := by subst e; exact eqR_wr h
theorem eqR_dry (h : eqR t s) (h16 : s 5 0 ≤ 16) : eqR (dry t) (dry s) := by
  intro r j hr
  unfold dry dry_k
  rw [h 5 0 (by unfold iR; omega)]
  by_cases g : r = 8
  · subst g
    have hj : j < 16 := by unfold iR at hr; omega
    rw [h 7 j (by unfold iR; omega), h 8 j (by unfold iR; omega)]
  · rw [if_neg (fun w => g w.1), if_neg (fun w => g w.1)]
    exact h r j hr
theorem eqR_pm1 (h : eqR t s) (h16 : s 5 0 ≤ 16) : eqR (pm1 S t) (pm1 S s) := by
  unfold pm1
  rw [h 0 5 (by unfold iR; omega)]
  split
  · exact eqR_dry (eqR_wr h) (by rw [wr_na (by decide)]; exact h16)
  · exact eqR_wr h
theorem eqR_esk (h : eqR t s) {sp q : Nat} {ch : Int} (hq : q < 16) : ∀ k, k ≤ 12 → eqR (esk S t sp q ch k) (esk S s sp q ch k)
  | 0, _ => h
  | k + 1, hk => by
    have ih := eqR_esk h (sp := sp) (ch := ch) hq k (by omega)
    rw [esk, esk]
    split
    · exact eqR_wv ih (by unfold ln; rw [ih 10 (q * 12 + k) (by unfold iR; omega)])
    · exact ih
theorem eqR_esp (h : eqR t s) {c : Nat} (hc : c < 4) (h17 : (s 17 c).toNat < 16) (h7 : (S 0 7).toNat ≤ 12) : eqR (esp S t c) (esp S s c) := by
  unfold esp lve
  rw [h 16 c (by unfold iR; omega), h 17 c (by unfold iR; omega), h 18 c (by unfold iR; omega), h 20 c (by unfold iR; omega)]
  have g := eqR_esk (S := S) h (sp := (s 16 c).toNat) (ch := s 18 c * (if 0 < s 20 c then 1 else 2)) h17 (S 0 7).toNat h7
  exact eqR_wr (eqR_wr (eqR_wr (eqR_wv g (by rw [g 8 (s 17 c).toNat (by unfold iR; omega)]))))
theorem eqR_pek (hS : wfS S) (hC : wfC S s) (h : eqR t s) : ∀ k : Nat, (k : Int) ≤ S 0 0 → eqR (pek S t k).1 (pek S s k).1 ∧ (pek S t k).2 = (pek S s k).2
  | 0, _ => ⟨h, rfl⟩
  | k + 1, hk => by
    have ih := eqR_pek hS hC h k (by omega)
    have n1 := wf_n hS
    have hw := (wf_pek hS hC k (by omega)).1
    have hx := hw.2.2.2.2.2 k (by omega)
    have h16 := hw.1.2.1
    rw [pek, pek, ih.1 16 k (by unfold iR; omega), ih.1 19 k (by unfold iR; omega)]
    split
    · exact ih
    · rename_i g
      split
      · exact ⟨eqR_esp (eqR_wr ih.1) (by omega) (by rw [wr_na (by decide)]; omega) (by omega), by show (pek S t k).2 + 1 = (pek S s k).2 + 1; rw [ih.2]⟩
      · exact ⟨eqR_wr ih.1, ih.2⟩
theorem eqR_rnk (hS : wfS S) (hC : wfC S s) (h : eqR t s) {r : Nat} {rk : Int} (hr : (r : Int) < s 11 0) : rnk S t r rk = rnk S s r rk := by
  have r1 := wf_r hS hC
  have n1 := wf_n hS
  have hd := hC.2.2.2.1 r hr
  unfold rnk
  rw [h 12 r (by unfold iR; omega), h 13 r (by unfold iR; omega), h 14 r (by unfold iR; omega), h 4 (s 12 r).toNat (by unfold iR; omega), h 9 (s 13 r).toNat (by unfold iR; omega)]
theorem eqR_fsk (hS : wfS S) (hC : wfC S s) (h : eqR t s) {rk : Int} : ∀ k : Nat, (k : Int) ≤ s 11 0 → fsk S t rk k = fsk S s rk k
  | 0, _ => rfl
  | k + 1, hk => by
    rw [fsk, fsk, eqR_fsk hS hC h k (by omega), eqR_rnk hS hC h (by omega)]
theorem eqR_fsl (hS : wfS S) (hC : wfC S s) (h : eqR t s) {rk : Int} : fsl S t rk = fsl S s rk := by
  have r1 := wf_r hS hC
  unfold fsl
  rw [h 11 0 (by unfold iR; omega), eqR_fsk hS hC h _ (by omega)]
theorem eqR_rmk (h : eqR t s) {p : Nat} : ∀ k : Nat, p + 1 + k ≤ 12 → eqR (rmk t p k) (rmk s p k)
  | 0, _ => h
  | k + 1, hk => by
    have ih := eqR_rmk h (p := p) k (by omega)
    rw [rmk, rmk]
    unfold mvr
    exact eqR_wv (eqR_wv (eqR_wv ih (ih 12 _ (by unfold iR; omega))) (ih 13 _ (by unfold iR; omega))) (ih 14 _ (by unfold iR; omega))
theorem eqR_rmv (hS : wfS S) (hC : wfC S s) (h : eqR t s) {p : Nat} (hp : (p : Int) < s 11 0) : eqR (rmv t p) (rmv s p) := by
  have r1 := wf_r hS hC
  unfold rmv
  rw [h 11 0 (by unfold iR; omega)]
  exact eqR_wr (eqR_rmk h _ (by omega))
theorem eqR_spk (hS : wfS S) (hC : wfC S s) (h : eqR t s) {c p : Nat} (hp : (p : Int) < s 11 0) : eqR (spk S t c p) (spk S s c p) := by
  have r1 := wf_r hS hC
  have n1 := wf_n hS
  have hd := hC.2.2.2.1 p hp
  unfold spk
  rw [h 12 p (by unfold iR; omega), h 13 p (by unfold iR; omega), h 14 p (by unfold iR; omega)]
  have g := eqR_wr (a := 9) (i := (s 13 p).toNat) (v := s 14 p) (eqR_wr (a := 19) (i := c) (v := S 0 2) (eqR_wr (a := 18) (i := c) (v := s 14 p) (eqR_wr (a := 17) (i := c) (v := ((s 13 p).toNat : Int)) (eqR_wr (a := 16) (i := c) (v := ((s 12 p).toNat : Int)) (eqR_rmv hS hC h hp)))))
  exact eqR_wv g (by rw [g 4 (s 12 p).toNat (by unfold iR; omega)])
theorem eqR_pfk (hS : wfS S) (hC : wfC S s) (h : eqR t s) : ∀ k : Nat, (k : Int) ≤ S 0 0 → eqR (pfk S t k) (pfk S s k)
  | 0, _ => h
  | k + 1, hk => by
    have ih := eqR_pfk hS hC h k (by omega)
    have n1 := wf_n hS
    have hw := wf_pfk hS hC k (by omega)
    rw [pfk, pfk, ih 16 k (by unfold iR; omega), ih 0 6 (by unfold iR; omega), eqR_fsl hS hw ih]
    split
    · have := fsl_b (S := S) (s := pfk S s k) (rk := pfk S s k 0 6) hw.1.2.2.1
      exact eqR_spk hS hw ih (by omega)
    · exact ih
theorem eqR_pmn (hS : wfS S) (hC : wfC S s) (h : eqR t s) : eqR (pmn S t) (pmn S s) ∧ pme S t = pme S s := by
  have n1 := wf_n hS
  have h16 := hC.1.2.1
  have hw := wf_pm1 hC
  have g := eqR_pek hS hw (eqR_pm1 (S := S) h h16) (S 0 0).toNat (by omega)
  exact ⟨eqR_pfk hS (wf_pek hS hw (S 0 0).toNat (by omega)).1 g.1 _ (by omega), g.2⟩
theorem eqR_pms (hS : wfS S) (hC : wfC S s) (h : eqR t s) : ∀ n : Nat, eqR (pms S t n).1 (pms S s n).1 ∧ (pms S t n).2 = (pms S s n).2
  | 0 => ⟨h, rfl⟩
  | n + 1 => by
    have ih := eqR_pms hS hC h n
    have g := eqR_pmn hS (wf_pms hS hC n).1 ih.1
    exact ⟨g.1, by show (pms S t n).2 + pme S (pms S t n).1 = (pms S s n).2 + pme S (pms S s n).1; rw [ih.2, g.2]⟩
theorem eqR_8 (hS : wfS S) (hC : wfC S s) (h : eqC t s) (n : Nat) {k : Nat} (hk : k < 16) : (pms S t n).1 8 k = (pms S s n).1 8 k := (eqR_pms hS hC (eqR_of h) n).1 8 k (by unfold iR; omega)
theorem msk_eq (hS : wfS S) (hC : wfC S s) (h : eqC t s) {m : Int} : ∀ j p : Nat, msk S t m j p = msk S s m j p
  | 0, _ => rfl
  | j + 1, p => by
    have r1 := wf_r hS (wf_pms hS hC p).1
    rw [msk, msk, plc_eq (eqC_R (eqR_pms hS hC (eqR_of h) p).1) (by omega), msk_eq hS hC h j (p + 1)]
theorem smf_cg {f g : Nat → Int} : ∀ {n : Nat}, (∀ k, k < n → f k = g k) → smf f n = smf g n
  | 0, _ => rfl
  | n + 1, h => by rw [smf, smf, smf_cg (fun k hk => h k (by omega)), h n (by omega)]
theorem obs_eq (hS : wfS S) (h : eqR t s) {q : Nat} (hq : q < 16) : obs S t q = obs S s q := by
  have n1 := wf_n hS
  have e1 : fnd (fun h => t 16 h ≠ -1 ∧ t 17 h = q) 4 = fnd (fun h => s 16 h ≠ -1 ∧ s 17 h = q) 4 := fnd_cong (fun k hk => by rw [h 16 k (by unfold iR; omega), h 17 k (by unfold iR; omega)])
  have e2 : nvt S t q = nvt S s q := by
    unfold nvt
    refine smf_cg (fun k hk => ?_)
    have e3 : vt t k q = vt s k q := by
      unfold vt ln
      rw [h 3 k (by unfold iR; omega), h 10 (q * 12 + k) (by unfold iR; omega)]
    rw [e3]
  unfold obs spa
  rw [h 7 q (by unfold iR; omega), h 8 q (by unfold iR; omega), e1, e2]
theorem mvk_eq (hS : wfS S) (hC : wfC S s) (h : eqC t s) {k : Nat} (hk : (k : Int) < s 5 0) : ∀ j p : Nat, mvk S t k j p = mvk S s k j p
  | 0, _ => rfl
  | j + 1, p => by
    have r1 := wf_r hS hC
    have g := (eqR_pms hS hC (eqR_of h) p).1
    have e5 : (pms S t p).1 5 0 = (pms S s p).1 5 0 := g 5 0 (by unfold iR; omega)
    have e6 := pms_5 (S := S) (s := s) p
    rw [mvk, mvk, obo_n (by omega), obo_n (by omega), obs_eq hS g (by omega), mvk_eq hS hC h hk j (p + 1)]
end Cong
