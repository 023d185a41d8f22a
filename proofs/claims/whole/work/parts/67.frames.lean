/-! SCRIPTS: what reading leaves as it was; how commands lie in one another -/
def frB (f : Int → Int) (L : Nat) (B : Blk) : Prop := ∀ x : Sta × Mem, okI f L x.2 → x.2 4 5 ≤ (B x).2 4 5 ∧ (∀ r k : Nat, 5 ≤ r → r ≤ 9 → (k : Int) < x.2 4 5 → (B x).2 r k = x.2 r k) ∧ (∀ b j : Nat, (b < 4 ∨ 10 ≤ b) → (B x).2 b j = x.2 b j) ∧ (∀ j : Nat, j ≠ 5 → (B x).2 4 j = x.2 4 j)
section Frames
variable {f : Int → Int} {L : Nat} {B : Blk} {d : Nat}
theorem opr_o {k : Int} {i : Nat} {s : Sta} {μ : Mem} {b j : Nat} (h : (b < 6 ∨ 8 < b) ∨ j ≠ i) : (opr f L k i s μ).2 b j = μ b j := by
  unfold opr
  (repeat' split) <;> (dsimp only; (repeat rw [wr_n (by omega)]))
theorem cm1_o {k : Int} {μ : Mem} {b j : Nat} (h : (b ≠ 4 ∨ j ≠ 5) ∧ (b ≠ 5 ∨ j ≠ (μ 4 5).toNat)) : cm1 k μ b j = μ b j := by
  unfold cm1
  rw [wr_n (by omega), wr_n (by omega)]
theorem cm1_4 {k : Int} {μ : Mem} : cm1 k μ 4 5 = μ 4 5 + 1 := by
  unfold cm1
  rw [wr_na (by decide), wr_s]
theorem cm1_5 {k : Int} {μ : Mem} : cm1 k μ 5 (μ 4 5).toNat = k := by
  unfold cm1
  rw [wr_s]
theorem cm2_4 {x : Sta × Mem} : (cm2 f L x).2 4 5 = x.2 4 5 + 1 := by
  unfold cm2
  rw [opr_o (by omega), cm1_4]
theorem cm2_5 {x : Sta × Mem} : (cm2 f L x).2 5 (x.2 4 5).toNat = kwV f L x.1 := by
  unfold cm2
  rw [opr_o (by omega), cm1_5]
theorem cm2_o {x : Sta × Mem} {b j : Nat} (h : (b < 4 ∨ 9 < b) ∨ (5 ≤ b ∧ j ≠ (x.2 4 5).toNat) ∨ (b = 4 ∧ j ≠ 5)) : (cm2 f L x).2 b j = x.2 b j := by
  unfold cm2
  rw [opr_o (by omega), cm1_o (by omega)]
theorem fr_brS (hB : frB f L B) : frB f L (brS f L B d) := by
  intro x h
  unfold brS
  split
  · exact ⟨Int.le_refl _, fun _ _ _ _ _ => rfl, fun _ _ _ => rfl, fun _ _ => rfl⟩
  · exact hB (gon f L (sgn f x.1 40), x.2) h
theorem cm3_fr (hB : frB f L B) {x : Sta × Mem} (h : okI f L x.2) (hl : x.2 4 5 < 30) : x.2 4 5 + 1 ≤ (cm3 f L B d x).2 4 5 ∧ (∀ r k : Nat, 5 ≤ r → r ≤ 9 → (k : Int) < x.2 4 5 + 1 → (cm3 f L B d x).2 r k = (cm2 f L x).2 r k) ∧ (∀ b j : Nat, (b < 4 ∨ 10 ≤ b) → (cm3 f L B d x).2 b j = x.2 b j) ∧ (∀ j : Nat, j ≠ 5 → (cm3 f L B d x).2 4 j = x.2 4 j) := by
  have h2 : okI f L (cm2 f L x).2 := okI_opr (okI_cm1 h hl)
  have e4 := cm2_4 (f := f) (L := L) (x := x)
  unfold cm3
  split
  · obtain ⟨g1, g2, g3, g4⟩ := fr_brS (d := d) hB (cm2 f L x) h2
    refine ⟨by omega, fun r k h5 h9 hk => g2 r k h5 h9 (by omega), fun b j hb => (g3 b j hb).trans (cm2_o (by omega)), fun j hj => (g4 j hj).trans (cm2_o (by omega))⟩
  · exact ⟨by omega, fun _ _ _ _ _ => rfl, fun b j hb => cm2_o (by omega), fun j hj => cm2_o (by omega)⟩
theorem fr_cmd (hB : frB f L B) : frB f L (cmd f L B d) := by
  intro x h
  have h4 := h.2.2
  unfold cmd
  split
  · exact ⟨Int.le_refl _, fun _ _ _ _ _ => rfl, fun _ _ _ => rfl, fun _ _ => rfl⟩
  · split
    · exact ⟨Int.le_refl _, fun _ _ _ _ _ => rfl, fun _ _ _ => rfl, fun _ _ => rfl⟩
    · obtain ⟨g1, g2, g3, g4⟩ := cm3_fr (d := d) hB h (by omega)
      refine ⟨?_, fun r k h5 h9 hk => ?_, fun b j hb => ?_, fun j hj => ?_⟩
      · dsimp only
        rw [wr_na (by decide)]
        omega
      · dsimp only
        rw [wr_n (by omega), g2 r k h5 h9 (by omega)]
        exact cm2_o (by omega)
      · dsimp only
        rw [wr_na (by omega), g3 b j hb]
      · dsimp only
        rw [wr_na (by decide), g4 j hj]
theorem fr_cms (hB : frB f L B) : frB f L (cms f L B d) := fun x h => fr_cmd hB x h
theorem fr_blk (hP : pvB f L B) (hB : frB f L B) : ∀ n : Nat, frB f L (blk f L B d n)
  | 0, _, _ => ⟨Int.le_refl _, fun _ _ _ _ _ => rfl, fun _ _ _ => rfl, fun _ _ => rfl⟩
  | n + 1, x, h => by
    rw [blk]
    split
    · obtain ⟨g1, g2, g3, g4⟩ := fr_cms (d := d) hB x h
      obtain ⟨k1, k2, k3, k4⟩ := fr_blk hP hB n (cms f L B d x) (pv_cms hP x h)
      exact ⟨by omega, fun r k h5 h9 hk => (k2 r k h5 h9 (by omega)).trans (g2 r k h5 h9 hk), fun b j hb => (k3 b j hb).trans (g3 b j hb), fun j hj => (k4 j hj).trans (g4 j hj)⟩
    · exact ⟨Int.le_refl _, fun _ _ _ _ _ => rfl, fun _ _ _ => rfl, fun _ _ => rfl⟩
theorem fr_m : frB f L (bkm f L) := fun _ _ => ⟨Int.le_refl _, fun _ _ _ _ _ => rfl, fun _ _ _ => rfl, fun _ _ => rfl⟩
theorem fr_0 : frB f L (bk0 f L) := fr_blk pv_m fr_m 31
theorem fr_1 : frB f L (bk1 f L) := fr_blk pv_0 fr_0 31
theorem fr_2 : frB f L (bk2 f L) := fr_blk pv_1 fr_1 31
end Frames
/-- the commands from a to b lie in one another r deep at most -/
def wfb (τ : Mem) : Nat → Nat → Nat → Nat → Prop
  | _, 0, a, b => b ≤ a
  | r, n + 1, a, b => b ≤ a ∨ (a < b ∧ ((τ 5 a ≠ 8 ∧ τ 9 a = ((a + 1 : Nat) : Int) ∧ wfb τ r n (a + 1) b) ∨ (τ 5 a = 8 ∧ 0 < r ∧ ∃ e : Nat, a < e ∧ e ≤ b ∧ τ 9 a = (e : Int) ∧ wfb τ (r - 1) n (a + 1) e ∧ wfb τ r n e b)))
theorem wfb_0 {τ : Mem} {r a b : Nat} (h : b ≤ a) : ∀ n, wfb τ r n a b
  | 0 => h
  | _ + 1 => Or.inl h
theorem wfb_s {τ : Mem} : ∀ {n r a b : Nat}, wfb τ r n a b → wfb τ r (n + 1) a b
  | 0, r, a, b, h => Or.inl h
  | n + 1, r, a, b, h => by
    rcases h with h | ⟨h1, h | ⟨h2, h3, e, h4, h5, h6, h7, h8⟩⟩
    · exact Or.inl h
    · exact Or.inr ⟨h1, Or.inl ⟨h.1, h.2.1, wfb_s h.2.2⟩⟩
    · exact Or.inr ⟨h1, Or.inr ⟨h2, h3, e, h4, h5, h6, wfb_s h7, wfb_s h8⟩⟩
theorem wfb_m {τ : Mem} {n m r a b : Nat} (h : wfb τ r n a b) (hm : n ≤ m) : wfb τ r m a b := by
  obtain ⟨k, rfl⟩ : ∃ k, m = n + k := ⟨m - n, by omega⟩
  induction k with
  | zero => exact h
  | succ k ih => exact wfb_s (ih (by omega))
theorem wfb_a {τ : Mem} {m c : Nat} : ∀ {n r a b : Nat}, wfb τ r n a b → a ≤ b → b ≤ c → wfb τ r m b c → wfb τ r (n + m) a c
  | 0, r, a, b, h, h1, h2, h3 => by
    have h9 : b ≤ a := h
    have e : a = b := by omega
    rw [e, Nat.zero_add]
    exact h3
  | n + 1, r, a, b, h, h1, h2, h3 => by
    have en : n + 1 + m = (n + m) + 1 := by omega
    rw [en]
    rcases h with h | ⟨g1, h | ⟨g2, g3, e, g4, g5, g6, g7, g8⟩⟩
    · have e : a = b := by omega
      rw [e]
      exact wfb_m h3 (by omega)
    · exact Or.inr ⟨by omega, Or.inl ⟨h.1, h.2.1, wfb_a h.2.2 (by omega) h2 h3⟩⟩
    · exact Or.inr ⟨by omega, Or.inr ⟨g2, g3, e, g4, by omega, g6, wfb_m g7 (by omega), wfb_a g8 g5 h2 h3⟩⟩
theorem wfb_f {τ τ' : Mem} : ∀ {n r a b : Nat}, (∀ k : Nat, a ≤ k → k < b → τ' 5 k = τ 5 k ∧ τ' 9 k = τ 9 k) → wfb τ r n a b → wfb τ' r n a b
  | 0, _, _, _, _, h => h
  | n + 1, r, a, b, hf, h => by
    rcases h with h | ⟨g1, h | ⟨g2, g3, e, g4, g5, g6, g7, g8⟩⟩
    · exact Or.inl h
    · have h9 := hf a (Nat.le_refl _) g1
      exact Or.inr ⟨g1, Or.inl ⟨by rw [h9.1]; exact h.1, by rw [h9.2]; exact h.2.1, wfb_f (fun k h1 h2 => hf k (by omega) h2) h.2.2⟩⟩
    · have h9 := hf a (Nat.le_refl _) g1
      exact Or.inr ⟨g1, Or.inr ⟨by rw [h9.1]; exact g2, g3, e, g4, g5, by rw [h9.2]; exact g6, wfb_f (fun k h1 h2 => hf k (by omega) (by omega)) g7, wfb_f (fun k h1 h2 => hf k (by omega) h2) g8⟩⟩
/-- a command of the model and of the class -/
def crel (τ σ : Mem) (k : Nat) : Prop := σ 8 k = τ 5 k ∧ (0 ≤ τ 5 k ∧ τ 5 k ≤ 8) ∧ (τ 5 k = 0 ∨ τ 5 k = 1 ∨ τ 5 k = 2 ∨ τ 5 k = 6 → σ 9 k = τ 6 k) ∧ (τ 5 k ≠ 6 → σ 10 k = τ 8 k) ∧ (τ 5 k = 1 → σ 11 k = sdm (τ 7 k) ∧ (τ 7 k = 1 ∨ τ 7 k = -1)) ∧ (τ 5 k = 8 → σ 11 k = τ 9 k ∧ 0 ≤ τ 8 k ∧ τ 8 k ≤ 20)
theorem crel_f {τ τ' σ σ' : Mem} {k : Nat} (h : crel τ σ k) (ht : ∀ r, 5 ≤ r → r ≤ 9 → τ' r k = τ r k) (hs : ∀ r, 8 ≤ r → r ≤ 11 → σ' r k = σ r k) : crel τ' σ' k := by
  unfold crel at h ⊢
  rw [hs 8 (by decide) (by decide), hs 9 (by decide) (by decide), hs 10 (by decide) (by decide), hs 11 (by decide) (by decide), ht 5 (by decide) (by decide), ht 6 (by decide) (by decide), ht 7 (by decide) (by decide), ht 8 (by decide) (by decide), ht 9 (by decide) (by decide)]
  exact h
/-- all but the reader's numbers, the number of commands and the commands from lo on is the same -/
def smF (lo : Nat) (σ' σ : Mem) : Prop := ∀ r j : Nat, (r ≠ 0 ∨ j < 12 ∨ (17 < j ∧ j ≠ 22)) → (r < 8 ∨ 11 < r ∨ j < lo) → σ' r j = σ r j
theorem smF_r (lo : Nat) (σ : Mem) : smF lo σ σ := fun _ _ _ _ => rfl
theorem smF_t {lo : Nat} {a b c : Mem} (h : smF lo a b) (g : smF lo b c) : smF lo a c := fun r j w w2 => (h r j w w2).trans (g r j w w2)
theorem smF_s {lo : Nat} {a b : Mem} (h : smo a b) : smF lo a b := fun r j w _ => h r j (by omega)
theorem smF_l {lo lo' : Nat} {a b : Mem} (h : smF lo a b) (hl : lo' ≤ lo) : smF lo' a b := fun r j w w2 => h r j w (by omega)
theorem smF_w {lo r i : Nat} {σ : Mem} {v : Int} (h : (8 ≤ r ∧ r ≤ 11 ∧ lo ≤ i) ∨ (r = 0 ∧ i = 22)) : smF lo (wr σ r i v) σ := fun a j w w2 => wr_n (by omega)
/-- how the model goes on where the class's block ends: at a sign that is none of its own -/
def fxS (f : Int → Int) (s : Sta) : Sta := mus s (tkK f s.1 = 0 ∨ tkK f s.1 = 1 ∨ (tkK f s.1 = 3 ∧ f (s.1 : Nat) = 41)) 1
theorem mus_im {s : Sta} {p q : Prop} [Decidable p] [Decidable q] {i : Int} (hi : i ≠ 0) (h : p → q) : mus (mus s q i) p i = mus s p i := by
  by_cases g : s.2.1 = 0
  · by_cases hq : q
    · rw [mus_t hq]
    · rw [mus_ff hi hq, mus_e (p := q) (q := p) (iff_of_false hq (fun w => hq (h w)))]
  · rw [mus_c g, mus_c g]
theorem fxS_1 {f : Int → Int} {s : Sta} : (fxS f s).1 = s.1 := mus_1
theorem sgn_fx {f : Int → Int} {s : Sta} : sgn f (fxS f s) 41 = sgn f s 41 := by
  unfold sgn
  rw [fxS_1]
  exact mus_im (by decide) (fun h => Or.inr (Or.inr h))
theorem end_fx {f : Int → Int} {s : Sta} : mus (fxS f s) (tkK f s.1 = 0) 1 = mus s (tkK f s.1 = 0) 1 := mus_im (by decide) (fun h => Or.inl h)
theorem fxS_0 {f : Int → Int} {s : Sta} (h : (fxS f s).2.1 = 0) : s.2.1 = 0 := (mus_0 (show (1 : Int) ≠ 0 by decide) h).1
theorem atw_1 {f : Int → Int} {L b : Nat} {w : String} (h : atw f L b w) : tkK f b = 1 := h.1
theorem kwV_1 {f : Int → Int} {L : Nat} {s : Sta} (h : tkK f s.1 ≠ 1) : kwV f L s = -1 := by
  unfold kwV
  (repeat rw [if_neg (fun w => h (atw_1 w))])
theorem kwV_b {f : Int → Int} {L : Nat} {s : Sta} : -1 ≤ kwV f L s ∧ kwV f L s ≤ 8 := by
  unfold kwV
  (repeat' split) <;> omega
section LdcW
variable {z d kc ks : Nat} {y : MI} {Q : Option Value → Mem → Prop} {X : String → Mem → Prop} {pc : Nat} {ls st : List Value} {μ σ : Mem} {ν : Nat → Int} {r : Nat}
theorem va_ldcSW {p : Program} {l : Launch} {e : Env} {R : Room} {s : State} {m : MethodId} {args : Array Value} {below : List Frame} {meth : Method} {c : Code} {H : Heap} {locs : List Loc} {cells slots : Nat} {Q : State → Prop} {ls : Array Slot} {rest : List Value} {cc : ByteArray} {pc : Nat} (hexec : p.tables.exec = Jvm.exec) (hb : c.code = cc) {own tx : String} {index q : Nat} (hown : s.vm.findClass own = some m.cls) (hZ : vk_R own index tx q s) (hdg : decode cc pc = .ok (.ldc_w index, 3))
    (k : W p l e R s m args below meth c H locs cells slots Q (F0 m (pc + 3) ls (.ref q :: rest))) : W p l e R s m args below meth c H locs cells slots Q (F0 m pc ls rest) := by
  intro T hT X
  obtain ⟨t, a1, b1⟩ := k T hT X
  exact ⟨t, X.ldcStringW hexec hown (text := tx) (a := q) hZ.1 hZ.2 (g := F0 m pc ls rest) rfl (by rw [hb]; exact hdg) t a1, b1⟩
theorem go_ldcW {idx i : Nat} {tx : String} (hd : decode y.2.1 pc = .ok (.ldc_w idx, 3)) (hi : sc_l[i]? = some (y.1.cls, idx, tx)) (K : go z d kc ks y Q X (pc + 3) ls (.ref (7000 + i) :: st) μ) : go z d kc ks y Q X pc ls st μ := by
  intro p l e R s m args below meth c D cy X0 mc ms nn ad hc H locs cells slots lsA dv hw hS hl h1 h2
  obtain ⟨c1, c2, c3, c4, c5, c6, c7, c8, c9, c10, c11⟩ := id hc
  exact va_ldcSW c1 c2 c5 (c8.2.1 i _ hi).1 hd (go_use K hc hw hS hl h1 h2)
theorem go_miasW {n k : Nat} {i v : Int} {fs : List (Option Nat)} (hd : decode y.2.1 pc = .ok (.iastore, 1)) (hr : r < 13) (h1 : r ≠ 1) (hs : mo_shp r = (1, n, fs)) (hz : 289 ≤ z) (hi : i = (k : Int)) (hk : k < n) (hn : n < 4000) (K : go z d kc ks y Q X (pc + 1) ls st (md (wr σ r k (wp v)) ν μ)) : go z d kc ks y Q X pc ls (.int (iI v) :: .int (iI i) :: .ref (276 + r) :: st) (md σ ν μ) := by
  rw [← iI_wp v]
  exact go_mias hd hr h1 hs hz hi hk hn (wp_rng v) K
end LdcW
