/-! BOTH SIDES OF A CALL -/
theorem mt_up {z z' d d' kc kc' ks ks' : Nat} {y : MI} {as : List Value} {Q : Option Value → Mem → Prop} {X : String → Mem → Prop} {μ : Mem} (h : mt z d kc ks y as Q X μ) (hz : z ≤ z') (hd : d ≤ d') (hk : kc ≤ kc') (hs : ks ≤ ks') : mt z' d' kc' ks' y as Q X μ := by
  intro p l e R s m args below meth c D cy X0 mc ms nn ad hc H locs cells slots lsA dv hw hS hl h1 h2
  obtain ⟨c1, c2, c3, c4, c5, c6, c7, c8, c9, c10, c11, c12, c13, c14, c15, c16⟩ := hc
  exact h p l e R s m args below meth c D cy X0 mc ms nn ad ⟨c1, c2, c3, c4, c5, c6, c7, c8, by omega, c10, by omega, by omega, c13, c14, c15, c16⟩ H locs cells slots lsA dv hw hS hl (by omega) (by omega)
theorem md_f1 (μ : Mem) (i : Nat) (a : Int) : md (wr (vw 276 μ) 0 i a) (μ 277) μ = wr μ 276 i a := by
  have h := md_w (σ := vw 276 μ) (ν := μ 277) (μ := μ) (r := 0) (k := i) (v := a) (by decide) (by decide)
  rw [md_v] at h
  exact h.symm
theorem md_f2 (μ : Mem) (i j : Nat) (a b : Int) : md (wr (wr (vw 276 μ) 0 i a) 0 j b) (μ 277) μ = wr (wr μ 276 i a) 276 j b := by
  have h := md_w (σ := wr (vw 276 μ) 0 i a) (ν := μ 277) (μ := μ) (r := 0) (k := j) (v := b) (by decide) (by decide)
  rw [md_f1] at h
  exact h.symm
theorem pvw (μ : Mem) : put 20 (vw 20 μ) μ = μ := put_v 20 μ
theorem w277 {μ : Mem} {a i : Nat} {v : Int} (h : a ≠ 277) : (wr μ a i v) 277 = μ 277 := funext (fun _ => wr_na (Ne.symm h))
/-- what the model answers: k what it throws, v the answer -/
def Mq (k v : Int) : Option Value → Mem → Prop := fun r μ2 => ∃ b : Int, r = some (.int (iI b)) ∧ μ2 276 7 = k ∧ INV μ2 ∧ (k = 0 → iI b = iI v ∧ μ2 289 0 = v)
def Mp (y : MI) (as : List Value) (k v : Int) (μ : Mem) : Prop := mt 289 16 0 0 y (.ref 276 :: as) (Mq k v) (fun _ _ => False) μ
/-- what a wrapper answers, and that the model answers alike then -/
def Qw (P : Int → Prop) (y : MI) (as : List Value) : Option Value → Mem → Prop := fun r μ1 => ∃ k v : Int, r = some (.int (iI k)) ∧ (0 ≤ k ∧ k ≤ 3) ∧ (k = 0 → P v ∧ rng v ∧ μ1 289 0 = v) ∧ Mp y as k v μ1
def Tw (P : Int → Prop) (yL y : MI) (as : List Value) (μ : Mem) : Prop := mt 291 17 3 246 yL (.ref 0 :: (as ++ [.ref 289])) (Qw P y as) (fun _ _ => False) μ
abbrev anyI : Int → Prop := fun _ => True
abbrev b01 : Int → Prop := fun v => v = 0 ∨ v = 1
theorem vok {y : MI} {as : List Value} {V : Int} {μ : Mem} (h : Mp y as 0 (wp V) (wr μ 289 0 (wp V))) : ∃ v : Int, some (Value.int (iI V)) = some (Value.int (iI v)) ∧ rng v ∧ Qw anyI y as (some (.int (iI 0))) (wr μ 289 0 v) :=
  ⟨wp V, by rw [iI_wp], wp_rng V, 0, wp V, rfl, by decide, fun _ => ⟨trivial, wp_rng V, wr_s _ _ _ _⟩, h⟩
theorem vok2 {y : MI} {as : List Value} {V : Int} {μ : Mem} (h01 : V = 0 ∨ V = 1) (h : Mp y as 0 V (wr μ 289 0 V)) : ∃ v : Int, some (Value.int (iI V)) = some (Value.int (iI v)) ∧ (v = 0 ∨ v = 1) ∧ Qw b01 y as (some (.int (iI 0))) (wr μ 289 0 v) :=
  ⟨V, rfl, h01, 0, V, rfl, by decide, fun _ => ⟨h01, by rcases h01 with g | g <;> rw [g] <;> decide, wr_s _ _ _ _⟩, h⟩
theorem tok {P : Int → Prop} {y : MI} {as : List Value} {k : Int} {μ : Mem} (hk : 1 ≤ k ∧ k ≤ 3) (h : Mp y as k 0 μ) : Qw P y as (some (.int (iI k))) μ :=
  ⟨k, 0, rfl, by omega, fun e => by omega, h⟩
/-- an answer of the model with nothing changed but what it notes -/
theorem rd0 {μ : Mem} {w b : Int} (h : INV μ) (hb : iI b = iI w) : Mq 0 w (some (.int (iI b))) (md (wr (vw 276 (wr μ 289 0 w)) 0 7 0) ((wr μ 289 0 w) 277) (wr μ 289 0 w)) := by
  rw [md_f1]
  refine ⟨b, rfl, wr_s _ _ _ _, inv_sam h (sam_t (sam_w (Or.inr (Or.inr (Or.inr ⟨rfl, Or.inl rfl⟩)))) (sam_w (Or.inl ⟨by decide, by decide⟩))), fun _ => ⟨hb, ?_⟩⟩
  rw [wr_na (by decide), wr_s]
theorem rdk {μ : Mem} {k b : Int} (h : INV μ) (hk : k ≠ 0) : Mq k 0 (some (.int (iI b))) (md (wr (wr (vw 276 μ) 0 7 0) 0 7 k) (μ 277) μ) := by
  rw [md_f2]
  exact ⟨b, rfl, wr_s _ _ _ _, inv_sam h (sam_t (sam_w (Or.inr (Or.inr (Or.inr ⟨rfl, Or.inl rfl⟩)))) (sam_w (Or.inr (Or.inr (Or.inr ⟨rfl, Or.inl rfl⟩))))), fun e => absurd e hk⟩
theorem iS {μ : Mem} (h : INV μ) : wfS (su μ) := h.1.1
theorem iC {μ : Mem} (h : INV μ) : wfC (su μ) (vw 20 μ) := h.1.2.1
theorem iR {μ : Mem} (h : INV μ) : rel (su μ) (vw 20 μ) (μ 277) := h.1.2.2
theorem iR9 {μ : Mem} {w : Int} (h : INV μ) : rel (su μ) (vw 20 μ) ((wr μ 289 0 w) 277) := by rw [w277 (by decide)]; exact h.1.2.2
/-- to the model, and to the class -/
theorem to_m {d : Nat} {y : MI} {as : List Value} {k v : Int} {μ : Mem} (hd : d ≤ 16) (K : mt 289 d 0 0 y (.ref 276 :: as) (Mq k v) (fun _ _ => False) (md (vw 276 μ) (μ 277) μ)) : Mp y as k v μ := by
  rw [md_v] at K
  exact mt_up K (Nat.le_refl _) hd (Nat.le_refl _) (Nat.le_refl _)
theorem to_c {z d kc ks : Nat} {y : MI} {as : List Value} {Q : Option Value → Mem → Prop} {X : String → Mem → Prop} {μ : Mem} (K : mt z d kc ks y as Q X (put 20 (vw 20 μ) μ)) : mt z d kc ks y as Q X μ := by
  rw [pvw] at K
  exact K
theorem to_w {d kc ks : Nat} {P : Int → Prop} {yL y : MI} {as : List Value} {μ : Mem} (hd : d ≤ 17) (hk : kc ≤ 3) (hs : ks ≤ 246) (K : mt 291 d kc ks yL (.ref 0 :: (as ++ [.ref 289])) (Qw P y as) (fun _ _ => False) μ) : Tw P yL y as μ := mt_up K (Nat.le_refl _) hd hk hs
