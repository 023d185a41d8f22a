/-! THE LAW'S PAST: the Owns kept and the class's chambers kept -/
theorem own_eqC {S s t ω : Mem} (hS : wfS S) (hC : wfC S s) (g : eqC t s) (h : own S s ω) : own S t ω := by
  have n1 := wf_n hS
  have r1 := wf_r hS hC
  have h16 := hC.1.2.1
  obtain ⟨⟨e5, e11, e0⟩, e12, e16, e192, e4⟩ := g
  have el (m q : Nat) (hm : m < 12) (hq : q < 16) : ln t m q = ln s m q := e192 _ (by omega)
  obtain ⟨a, b, c, d, f, q⟩ := h
  refine ⟨?_, fun i hi => ?_, fun i hi => ?_, fun i h1 h2 => ?_, fun i hi => ?_, fun i hi => ?_⟩
  · rw [e5, e0 5 (by decide) (by decide), e0 6 (by decide) (by decide), e0 7 (by decide) (by decide), e0 8 (by decide) (by decide), e0 9 (by decide) (by decide)]
    exact a
  · have g := e12 i (by omega)
    rw [g.1, g.2.1, g.2.2.1]
    exact b i hi
  · rw [e5] at hi
    have g := e16 i (by omega)
    rw [g.1, g.2.1, g.2.2.1, g.2.2.2]
    have := c i hi
    exact ⟨this.1, this.2.1, this.2.2.1, this.2.2.2.1, fun m hm => by rw [el m i (by omega) (by omega)]; exact this.2.2.2.2 m hm⟩
  · rw [e5] at h1
    exact d i h1 h2
  · have g := e4 i hi
    rw [g.1, g.2.1, g.2.2.1, g.2.2.2.1, g.2.2.2.2]
    exact f i hi
  · rw [e11]
    by_cases w : (i : Int) < s 11 0
    · have g := e12 i (by omega)
      unfold rqv
      rw [g.2.2.2.1, g.2.2.2.2.1, g.2.2.2.2.2]
      exact q i hi
    · have := q i hi
      rw [if_neg w] at this ⊢
      exact this
theorem GD_eq {S s t ω : Mem} {T : Int} (hS : wfS S) (h : GD S s ω T) (g : eqC t s) : GD S t ω T := by
  obtain ⟨a, b, c, d, e, f⟩ := h
  have n1 := wf_n hS
  have g5 := g.1.2.2 5 (by decide) (by decide)
  exact ⟨wf_eq hS a g, own_eqC hS a g b, zro_eq hS a c g, fun m hm => by rw [(g.2.1 m (by omega)).2.2.1]; exact d m hm, by rw [g5]; exact e, by rw [g5]; exact f⟩
theorem GD_cg {S s ω ω' : Mem} {T : Int} (h : GD S s ω T) (e : ∀ r j, r < 17 → ω' r j = ω r j) : GD S s ω' T := ⟨h.1, own_cg h.2.1 e, h.2.2⟩
theorem eqC_cg {s t : Mem} (e : ∀ r j, r < 21 → t r j = s r j) : eqC t s :=
  ⟨⟨e _ _ (by decide), e _ _ (by decide), fun _ _ _ => e _ _ (by decide)⟩, fun _ _ => ⟨e _ _ (by decide), e _ _ (by decide), e _ _ (by decide), e _ _ (by decide), e _ _ (by decide), e _ _ (by decide)⟩, fun _ _ => ⟨e _ _ (by decide), e _ _ (by decide), e _ _ (by decide), e _ _ (by decide)⟩, fun _ _ => e _ _ (by decide), fun _ _ => ⟨e _ _ (by decide), e _ _ (by decide), e _ _ (by decide), e _ _ (by decide), e _ _ (by decide)⟩⟩
/-- the Owns kept, the latest first: their addresses, their numbers and rows -/
abbrev kpL := List ((Nat → Nat) × Mem)
def kfc (cy : Nat → ClassId) (L : kpL) : va_W := L.flatMap (fun x => celO cy x.1 x.2)
def kff (L : kpL) : Nat → Option Nat := fun j => if j < L.length then (L[L.length - 1 - j]?).map (fun x => x.1 276) else none
theorem kff_nil : kff [] = fun _ => none := rfl
theorem kff_cons {A : Nat → Nat} {ω : Mem} {L : kpL} : kff ((A, ω) :: L) = va_up (kff L) L.length (some (A 276)) := by
  funext j
  unfold kff va_up
  simp only [List.length_cons]
  by_cases h : j = L.length
  · subst h
    rw [if_pos (Nat.lt_succ_self _), if_pos rfl, show L.length + 1 - 1 - L.length = 0 by omega]
    rfl
  · rw [if_neg h]
    by_cases g : j < L.length
    · rw [if_pos (by omega), if_pos g, show L.length + 1 - 1 - j = (L.length - 1 - j) + 1 by omega, List.getElem?_cons_succ]
    · rw [if_neg (by omega), if_neg g]
theorem kff_at {A : Nat → Nat} {ω : Mem} {L : kpL} {i j : Nat} (h : L[i]? = some (A, ω)) (hj : j + i + 1 = L.length) : kff L j = some (A 276) := by
  unfold kff
  rw [if_pos (by omega), show L.length - 1 - j = i by omega, h]
  rfl
/-- the class's past: place n, c chambers of it count -/
def HV (T : Int) (n c : Nat) (L : kpL) (μ : Mem) : Prop :=
  wfS (su μ) ∧ n < 8 ∧ μ 62 1 = n ∧ μ 62 2 = c ∧ c ≤ 8 ∧ c ≤ L.length ∧ ∀ i x, i < c → L[i]? = some x → GD (su μ) (vw (64 + 21 * ((n + 7 - i) % 8)) μ) x.2 T
theorem HV_mono {T T' : Int} {n c : Nat} {L : kpL} {μ : Mem} (h : HV T n c L μ) (hT : T ≤ T') : HV T' n c L μ := by
  obtain ⟨a, b, e1, e2, e3, e4, e5⟩ := h
  exact ⟨a, b, e1, e2, e3, e4, fun i x hi hx => GD_mono (e5 i x hi hx) hT⟩
theorem HV_HB {T : Int} {n c : Nat} {L : kpL} {μ : Mem} (h : HV T n c L μ) {σ ω : Mem} {T' : Int} (hG : GD (su μ) σ ω T') : HB μ σ n := ⟨h.2.1, h.2.2.1, ⟨by rw [h.2.2.2.1]; omega, by rw [h.2.2.2.1]; have := h.2.2.2.2.1; omega⟩, h.1, hG.1⟩
theorem HV_cg {T : Int} {n c : Nat} {L : kpL} {μ μ' : Mem} (h : HV T n c L μ) (e : ∀ b j, b < 20 ∨ (62 ≤ b ∧ b < 276) → μ' b j = μ b j) : HV T n c L μ' := by
  obtain ⟨a, b, e1, e2, e3, e4, e5⟩ := h
  have es : su μ' = su μ := by
    funext r j
    unfold su
    by_cases g : r < 5
    · rw [if_pos g, if_pos g, e _ _ (by omega)]
    · rw [if_neg g, if_neg g]
  refine ⟨by rw [es]; exact a, b, by rw [e _ _ (by decide)]; exact e1, by rw [e _ _ (by decide)]; exact e2, e3, e4, fun i x hi hx => ?_⟩
  rw [es]
  exact GD_eq a (e5 i x hi hx) (eqC_cg fun r j hr => by show μ' _ j = μ _ j; exact e _ _ (by omega))
/-- a change keeps what was -/
theorem HV_hst {T T' : Int} {n c : Nat} {L : kpL} {μ τ σ' ω' : Mem} {A : Nat → Nat} (hV : LV T μ) (h : HV T n c L μ) (hT : T ≤ T') (hcL : c = min 8 L.length) (e : eqC τ (vw 20 μ)) : HV T' (if n < 7 then n + 1 else 0) (min 8 (L.length + 1)) ((A, vw 276 μ) :: L) (ow 276 ω' (put 20 σ' (hst μ n τ))) := by
  obtain ⟨a, b, e1, e2, e3, e4, e5⟩ := h
  have es : su (ow 276 ω' (put 20 σ' (hst μ n τ))) = su μ := by rw [su_ow (Or.inl rfl), su_put20, su_hst]
  have ep (r j : Nat) (hr : 62 ≤ r ∧ r < 276) : ow 276 ω' (put 20 σ' (hst μ n τ)) r j = hst μ n τ r j := by rw [ow_lo (Or.inl rfl) (by omega), put_o (by omega)]
  have eh (r j : Nat) (hr : 63 ≤ r) : hst μ n τ r j = put (64 + 21 * n) τ μ r j := by
    unfold hst
    rw [wr_na (by omega), wr_na (by omega)]
  refine ⟨by rw [es]; exact a, by split <;> omega, ?_, ?_, by omega, by simp only [List.length_cons]; omega, fun i x hi hx => ?_⟩
  · rw [ep _ _ (by decide)]
    unfold hst
    rw [wr_ni (by decide), wr_s]
    split <;> simp
  · rw [ep _ _ (by decide)]
    unfold hst
    rw [wr_s, e2]
    omega
  · rw [es]
    cases i with
    | zero =>
      cases hx
      refine GD_eq a (GD_mono hV.2 hT) (eqC_tr (eqC_cg fun r j hr => ?_) e)
      have hk : (((if n < 7 then n + 1 else 0) + 7 - 0) % 8) = n := by split <;> omega
      show ow 276 ω' (put 20 σ' (hst μ n τ)) (64 + 21 * (((if n < 7 then n + 1 else 0) + 7 - 0) % 8) + r) j = τ r j
      rw [hk, ep _ _ (by omega), eh _ _ (by omega), put_r hr]
    | succ i =>
      have hx' : L[i]? = some x := hx
      have hil : i < L.length := (List.getElem?_eq_some_iff.mp hx').1
      refine GD_eq a (GD_mono (e5 i x (by omega) hx') hT) (eqC_cg fun r j hr => ?_)
      obtain ⟨k, hk, hk1, hk2, hk3⟩ : ∃ k : Nat, ((if n < 7 then n + 1 else 0) + 7 - (i + 1)) % 8 = k ∧ (n + 7 - i) % 8 = k ∧ k ≠ n ∧ k < 8 := ⟨(n + 7 - i) % 8, by split <;> omega, rfl, by omega, by omega⟩
      show ow 276 ω' (put 20 σ' (hst μ n τ)) (64 + 21 * (((if n < 7 then n + 1 else 0) + 7 - (i + 1)) % 8) + r) j = μ (64 + 21 * ((n + 7 - i) % 8) + r) j
      rw [hk, hk1, ep _ _ (by omega), eh _ _ (by omega), put_o (by omega)]
/-- one step back -/
theorem HV_undo {T : Int} {n c k : Nat} {L : kpL} {x : (Nat → Nat) × Mem} {μ τ : Mem} (h : HV T n (c + 1) (x :: L) μ) (hk : (k : Int) = (if 0 < n then (n : Int) - 1 else 7)) (e : eqC τ (vw (64 + 21 * k) μ)) :
    HV T k c L (put 20 τ (wr (wr μ 62 1 k) 62 2 (μ 62 2 - 1))) ∧ GD (su (put 20 τ (wr (wr μ 62 1 k) 62 2 (μ 62 2 - 1)))) (vw 20 (put 20 τ (wr (wr μ 62 1 k) 62 2 (μ 62 2 - 1)))) x.2 T := by
  obtain ⟨a, b, e1, e2, e3, e4, e5⟩ := h
  have es : su (put 20 τ (wr (wr μ 62 1 k) 62 2 (μ 62 2 - 1))) = su μ := by rw [su_put20, su_wr (by decide), su_wr (by decide)]
  have k8 : k < 8 := by split at hk <;> omega
  have kn : (n + 7 - 0) % 8 = k := by split at hk <;> omega
  have ep (r j : Nat) (hr : 63 ≤ r) : put 20 τ (wr (wr μ 62 1 k) 62 2 (μ 62 2 - 1)) r j = μ r j := by rw [put_o (by omega), wr_na (by omega), wr_na (by omega)]
  refine ⟨⟨by rw [es]; exact a, k8, by rw [put_o (by decide), wr_ni (by decide), wr_s], by rw [put_o (by decide), wr_s, e2]; omega, by omega, by simp only [List.length_cons] at e4; omega, fun i y hi hy => ?_⟩, ?_⟩
  · rw [es]
    refine GD_eq a (e5 (i + 1) y (by omega) hy) (eqC_cg fun r j hr => ?_)
    have hq : (n + 7 - (i + 1)) % 8 = (k + 7 - i) % 8 := by split at hk <;> omega
    show put 20 τ (wr (wr μ 62 1 k) 62 2 (μ 62 2 - 1)) (64 + 21 * ((k + 7 - i) % 8) + r) j = μ (64 + 21 * ((n + 7 - (i + 1)) % 8) + r) j
    rw [hq, ep _ _ (by omega)]
  · rw [es]
    have h0 := e5 0 x (by omega) rfl
    rw [kn] at h0
    refine GD_eq a h0 (eqC_tr (eqC_cg fun r j hr => ?_) e)
    show put 20 τ _ (20 + r) j = τ r j
    exact put_r hr
