/-! THE DRAWN TEXT, as tokens -/
/-- from p on to the end at n there stand the letters X -/
def TK (g : Int → Int) (n p : Nat) (X : List Int) : Prop := (∀ (j : Nat) (c : Int), X[j]? = some c → g ((p + j : Nat) : Int) = c) ∧ p + X.length = n
/-- a text that doesn't begin with a space -/
def nz (X : List Int) : Prop := ∀ c t, X = c :: t → kd c ≠ 4
section Tok
variable {g : Int → Int} {n p : Nat} {X : List Int} {e : Int}
theorem TK_app {a : List Int} (h : TK g n p (a ++ X)) : (∀ (j : Nat) (c : Int), a[j]? = some c → g ((p + j : Nat) : Int) = c) ∧ TK g n (p + a.length) X := by
  refine ⟨fun j c hj => h.1 j c (by rw [List.getElem?_append_left (List.getElem?_eq_some_iff.mp hj).1]; exact hj), fun j c hj => ?_, by have := h.2; rw [List.length_append] at this; omega⟩
  rw [Nat.add_assoc]
  exact h.1 (a.length + j) c (by rw [List.getElem?_append_right (by omega), Nat.add_sub_cancel_left]; exact hj)
theorem TK_c {c : Int} (h : TK g n p (c :: X)) : g (p : Int) = c ∧ p < n ∧ TK g n (p + 1) X := by
  refine ⟨h.1 0 c rfl, by have := h.2; rw [List.length_cons] at this; omega, fun j d hj => ?_, by have := h.2; rw [List.length_cons] at this; omega⟩
  rw [show p + 1 + j = p + (j + 1) by omega]
  exact h.1 (j + 1) d hj
theorem TK_nz (h : TK g n p X) (h0 : g (n : Int) = 0) (hz : nz X) : kd (g (p : Int)) ≠ 4 := by
  cases X with
  | nil =>
    have e : p = n := by have := h.2; rw [List.length_nil] at this; omega
    rw [e, h0]
    decide
  | cons c t =>
    rw [(TK_c h).1]
    exact hz c t rfl
theorem skp_0 {m : Nat} (h : kd (g (p : Int)) ≠ 4) : skp g m p = p := by
  cases m with
  | zero => rfl
  | succ m => exact if_neg h
theorem tkB_0 (h : kd (g (p : Int)) ≠ 4) : tkB g n p = p := skp_0 h
theorem tkB_1 (h : g (p : Int) = 32) (h2 : kd (g ((p + 1 : Nat) : Int)) ≠ 4) (hL : p < n) : tkB g n p = p + 1 := by
  unfold tkB
  rw [show n - p = (n - p - 1) + 1 by omega]
  show (if kd (g (p : Int)) = 4 then skp g (n - p - 1) (p + 1) else p) = p + 1
  rw [if_pos (by rw [h]; decide), skp_0 h2]
theorem rnn_m {k : Int} : ∀ (m N p : Nat), m ≤ N → (∀ j, j < m → kd (g ((p + j : Nat) : Int)) = k) → kd (g ((p + m : Nat) : Int)) ≠ k → rnn g k N p = p + m
  | 0, N, p, _, _, h => by
    cases N with
    | zero => rfl
    | succ N => exact if_neg h
  | m + 1, 0, p, hN, _, _ => by omega
  | m + 1, N + 1, p, hN, h1, h2 => by
    show (if kd (g (p : Int)) = k then rnn g k N (p + 1) else p) = p + (m + 1)
    rw [if_pos (show kd (g (p : Int)) = k from h1 0 (by omega)), rnn_m m N (p + 1) (by omega) (fun j hj => by rw [show p + 1 + j = p + (j + 1) by omega]; exact h1 (j + 1) (by omega)) (by rw [show p + 1 + m = p + (m + 1) by omega]; exact h2)]
    omega
theorem dgl_1d {v : Nat} (h : v < 10) : dgl v = [48 + (v : Int)] := if_pos h
theorem dgl_c {v j : Nat} {c : Int} (hv : v < 100) (h : (dgl v)[j]? = some c) : 48 ≤ c ∧ c ≤ 57 := by
  by_cases w : v < 10
  · rw [dgl_1 w] at h
    have := List.mem_of_getElem? h
    rw [List.mem_singleton] at this
    omega
  · rw [dgl_2 w] at h
    have := List.mem_of_getElem? h
    simp only [List.mem_cons, List.not_mem_nil, or_false] at this
    omega
theorem dgl_nz {v : Nat} (hv : v < 100) : nz (dgl v ++ X) := by
  intro c t h
  have h0 : (dgl v ++ X)[0]? = some c := by rw [h]; rfl
  have hl := dgl_l v
  rw [List.getElem?_append_left (by omega)] at h0
  have := dgl_c hv h0
  unfold kd
  (repeat' split) <;> omega
theorem gon_ok {s : Sta} (h : s.2.1 = 0) : gon g n s = (nxt g n s.1, 0, s.2.2) := if_pos h
/-- behind a token: a space, then no space -/
theorem nxt_sp {b q : Nat} (he : tkE g n b = q) (h : TK g n q ([32] ++ X)) (h0 : g (n : Int) = 0) (hz : nz X) : nxt g n b = q + 1 ∧ TK g n (q + 1) X := by
  obtain ⟨a, b9, c⟩ := TK_c h
  refine ⟨?_, c⟩
  unfold nxt
  rw [he]
  exact tkB_1 a (TK_nz c h0 hz) b9
theorem nxt_no {b q : Nat} (he : tkE g n b = q) (h : TK g n q X) (h0 : g (n : Int) = 0) (hz : nz X) : nxt g n b = q := by
  unfold nxt
  rw [he]
  exact tkB_0 (TK_nz h h0 hz)
theorem num_ok {v : Nat} (hv : v < 100) (h : TK g n p (dgl v ++ X)) (hX : kd (g ((p + (dgl v).length : Nat) : Int)) ≠ 2) : tkK g p = 2 ∧ tkE g n p = p + (dgl v).length ∧ nmv g n p = v := by
  obtain ⟨h1, h2⟩ := TK_app h
  have hl := dgl_l v
  have hd : ∀ j, j < (dgl v).length → kd (g ((p + j : Nat) : Int)) = 2 := fun j hj => by
    obtain ⟨c, hc⟩ : ∃ c, (dgl v)[j]? = some c := ⟨_, List.getElem?_eq_getElem hj⟩
    rw [h1 j c hc]
    exact kd_2.mpr (dgl_c hv hc)
  have hk : tkK g p = 2 := hd 0 (by omega)
  have hr : rnn g 2 (n - p) p = p + (dgl v).length := rnn_m _ _ _ (by have := h2.2; omega) hd hX
  refine ⟨hk, ?_, ?_⟩
  · unfold tkE
    rw [hk, if_neg (by decide), if_pos (Or.inr rfl), hr]
  · unfold nmv
    rw [hr, Nat.add_sub_cancel_left]
    by_cases w : v < 10
    · rw [dgl_1 w] at h1 ⊢
      have g0 := h1 0 _ rfl
      show min 1000 (10 * 0 + g (p : Int) - 48) = (v : Int)
      rw [show g (p : Int) = 48 + (v : Int) from g0]
      omega
    · rw [dgl_2 w] at h1 ⊢
      have g0 := h1 0 _ rfl
      have g1 := h1 1 _ rfl
      show min 1000 (10 * min 1000 (10 * 0 + g (p : Int) - 48) + g ((p + 1 : Nat) : Int) - 48) = (v : Int)
      rw [show g (p : Int) = 48 + ((v / 10 : Nat) : Int) from g0, g1]
      omega
theorem num3_ok {v q : Nat} {a m : Int} (hk : tkK g p = 2) (hn : nmv g n p = v) (ham : a ≤ v ∧ (v : Int) ≤ m) (hx : nxt g n p = q) : num3 g n (p, 0, e) a m = (q, 0, e) ∧ tkn3 g n (p, 0, e) a m = v := by
  have h3 : num3 g n (p, 0, e) a m = (q, 0, e) := by
    unfold num3
    rw [mus_t (s := (p, 0, e)) hk, mus_t (s := (p, 0, e)) (by show a ≤ nmv g n p ∧ nmv g n p ≤ m; rw [hn]; exact ham), gon_ok rfl, hx]
  refine ⟨h3, ?_⟩
  rw [tkn3_0 (by rw [h3])]
  exact hn
/-- a number, then a space -/
theorem num_sp {v : Nat} {a m : Int} (hv : v < 100) (h : TK g n p (dgl v ++ ([32] ++ X))) (h0 : g (n : Int) = 0) (hz : nz X) (ham : a ≤ v ∧ (v : Int) ≤ m) : ∃ q, num3 g n (p, 0, e) a m = (q, 0, e) ∧ tkn3 g n (p, 0, e) a m = v ∧ nmv g n p = v ∧ TK g n q X := by
  have h2 := (TK_app h).2
  have hc := (TK_c h2).1
  obtain ⟨a1, a2, a3⟩ := num_ok hv h (by rw [hc]; decide)
  obtain ⟨b1, b2⟩ := nxt_sp a2 h2 h0 hz
  obtain ⟨c1, c2⟩ := num3_ok (e := e) a1 a3 ham b1
  exact ⟨_, c1, c2, a3, b2⟩
/-- a number, then a semicolon -/
theorem num_sc {v : Nat} {a m : Int} (hv : v < 100) (h : TK g n p (dgl v ++ ([59] ++ X))) (h0 : g (n : Int) = 0) (ham : a ≤ v ∧ (v : Int) ≤ m) : ∃ q, num3 g n (p, 0, e) a m = (q, 0, e) ∧ tkn3 g n (p, 0, e) a m = v ∧ nmv g n p = v ∧ TK g n q ([59] ++ X) := by
  have h2 := (TK_app h).2
  have hc := (TK_c h2).1
  obtain ⟨a1, a2, a3⟩ := num_ok hv h (by rw [hc]; decide)
  have b1 := nxt_no a2 h2 h0 (fun c t w => by
    have : c = 59 := by
      have := (List.cons.inj w).1
      omega
    rw [this]; decide)
  obtain ⟨c1, c2⟩ := num3_ok (e := e) a1 a3 ham b1
  exact ⟨_, c1, c2, a3, h2⟩
/-- the semicolon -/
theorem sgn_ok (h : TK g n p ([59] ++ X)) (h0 : g (n : Int) = 0) (hz : nz X) : ∃ q, gon g n (sgn g (p, 0, e) 59) = (q, 0, e) ∧ TK g n q X := by
  obtain ⟨a, b, c⟩ := TK_c h
  have hk : tkK g p = 3 := by
    unfold tkK
    rw [a]
    decide
  have he : tkE g n p = p + 1 := by
    unfold tkE
    rw [if_pos hk]
  refine ⟨p + 1, ?_, c⟩
  unfold sgn
  rw [mus_t (s := (p, 0, e)) ⟨hk, a⟩, gon_ok rfl, nxt_no he c h0 hz]
/-- letters, then a space -/
theorem wrd_ok {w : List Int} (hw : ∀ c ∈ w, 97 ≤ c ∧ c ≤ 122) (hl : 0 < w.length) (h : TK g n p (w ++ ([32] ++ X))) (h0 : g (n : Int) = 0) (hz : nz X) : tkK g p = 1 ∧ tkE g n p = p + w.length ∧ nxt g n p = p + w.length + 1 ∧ TK g n (p + w.length + 1) X := by
  obtain ⟨h1, h2⟩ := TK_app h
  have hd : ∀ j, j < w.length → kd (g ((p + j : Nat) : Int)) = 1 := fun j hj => by
    obtain ⟨c, hc⟩ : ∃ c, w[j]? = some c := ⟨_, List.getElem?_eq_getElem hj⟩
    rw [h1 j c hc]
    exact kd_1.mpr (hw c (List.mem_of_getElem? hc))
  have hk : tkK g p = 1 := hd 0 (by omega)
  have he : tkE g n p = p + w.length := by
    unfold tkE
    rw [hk, if_neg (by decide), if_pos (Or.inl rfl)]
    exact rnn_m _ _ _ (by have := h2.2; omega) hd (by rw [(TK_c h2).1]; decide)
  obtain ⟨b1, b2⟩ := nxt_sp he h2 h0 hz
  exact ⟨hk, he, b1, b2⟩
theorem eqw_l {w : String} : ∀ {m : Nat}, (∀ j, j < m → g ((p + j : Nat) : Int) = chz w j) → eqw g w p m = true
  | 0, _ => rfl
  | m + 1, h => by
    rw [eqw, eqw_l (fun j hj => h j (by omega)), decide_eq_true (h m (by omega))]
    rfl
end Tok
