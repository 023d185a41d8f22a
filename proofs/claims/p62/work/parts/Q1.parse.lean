/-! THE DRAWN TEXT, read -/
theorem lh_house : lx 6 hs9 = [104, 111, 117, 115, 101] ++ [32] := by decide +kernel
theorem lm_member : lx 7 ms9 = [109, 101, 109, 98, 101, 114] ++ [32] := by decide +kernel
theorem ch_house : ∀ j : Fin 5, ([104, 111, 117, 115, 101] : List Int)[j.val]? = some (chz "house" j.val) := by decide +kernel
theorem ch_member : ∀ j : Fin 6, ([109, 101, 109, 98, 101, 114] : List Int)[j.val]? = some (chz "member" j.val) := by decide +kernel
theorem fnd_none {P : Nat → Prop} [DecidablePred P] : ∀ n : Nat, (∀ m, m < n → ¬ P m) → fnd P n = -1
  | 0, _ => rfl
  | n + 1, h => by
    rw [fnd, fnd_none n (fun m hm => h m (by omega)), if_pos rfl, if_neg (h n (by omega))]
section Parse
variable {g : Int → Int} {n p : Nat} {X : List Int} {e : Int}
theorem atw_ok {w : String} {l : List Int} (hl : l.length = w.length) (hc : ∀ j, j < l.length → l[j]? = some (chz w j)) (hk : tkK g p = 1) (he : tkE g n p = p + l.length) (h : ∀ (j : Nat) (c : Int), l[j]? = some c → g ((p + j : Nat) : Int) = c) : atw g n p w :=
  ⟨hk, by rw [he, hl]; omega, eqw_l (fun j hj => h j _ (hc j (by omega)))⟩
theorem hd_parse {w0 w1 w2 w3 w4 w5 w6 : Nat} (hw : (1 ≤ w0 ∧ w0 ≤ 4) ∧ w1 ≤ 5 ∧ (1 ≤ w2 ∧ w2 ≤ 20) ∧ w3 ≤ 20 ∧ (2 ≤ w4 ∧ w4 ≤ 30) ∧ w5 ≤ 9 ∧ w6 ≤ 12) (h : TK g n 0 (hdT w0 w1 w2 w3 w4 w5 w6 ++ X)) (h0 : g (n : Int) = 0) (hz : nz X) (M : Mem) :
    ∃ q M', hdm g n (st0 g n) M = ((q, 0, -1), M') ∧ TK g n q X ∧ (M' 15 0 = (w0 : Nat) ∧ M' 15 1 = (w1 : Nat) ∧ M' 15 2 = (w2 : Nat) ∧ M' 15 3 = (w3 : Nat) ∧ M' 15 4 = (w4 : Nat) ∧ M' 15 5 = (w5 : Nat) ∧ M' 15 6 = (w6 : Nat) ∧ M' 15 7 = 0) := by
  obtain ⟨⟨a0, b0⟩, b1, ⟨a2, b2⟩, b3, ⟨a4, b4⟩, b5, b6⟩ := hw
  simp only [hdT, lh_house, List.append_assoc] at h
  have hs : st0 g n = (0, 0, -1) := by
    unfold st0
    rw [tkB_0 (p := 0) (TK_nz h h0 (fun c t w => by
      have := (List.cons.inj w).1
      rw [← this]; decide))]
  obtain ⟨k1, k2, k3, k4⟩ := wrd_ok (w := [104, 111, 117, 115, 101]) (by decide) (by decide) h h0 (dgl_nz (by omega))
  have hA : atw g n 0 "house" := atw_ok (l := [104, 111, 117, 115, 101]) (by decide +kernel) (fun j hj => ch_house ⟨j, hj⟩) k1 k2 (TK_app h).1
  obtain ⟨p0, e0⟩ : ∃ p0, p0 = 0 + ([104, 111, 117, 115, 101] : List Int).length + 1 := ⟨_, rfl⟩
  have E0 : hq0 g n (0, 0, -1) = (p0, 0, -1) := by
    unfold hq0
    rw [mus_t (s := (0, 0, -1)) hA, gon_ok rfl, k3, e0]
  rw [← e0] at k4
  obtain ⟨p1, E1, t1, -, k⟩ := num_sp (e := -1) (a := 1) (m := 4) (by omega) k4 h0 (dgl_nz (by omega)) (by omega)
  obtain ⟨p2, E2, t2, -, k⟩ := num_sp (e := -1) (a := 0) (m := 5) (by omega) k h0 (dgl_nz (by omega)) (by omega)
  obtain ⟨p3, E3, t3, -, k⟩ := num_sp (e := -1) (a := 1) (m := 20) (by omega) k h0 (dgl_nz (by omega)) (by omega)
  obtain ⟨p4, E4, t4, -, k⟩ := num_sp (e := -1) (a := 0) (m := 20) (by omega) k h0 (dgl_nz (by omega)) (by omega)
  obtain ⟨p5, E5, t5, -, k⟩ := num_sp (e := -1) (a := 2) (m := 30) (by omega) k h0 (dgl_nz (by omega)) (by omega)
  obtain ⟨p6, E6, t6, -, k⟩ := num_sp (e := -1) (a := 0) (m := 9) (by omega) k h0 (dgl_nz (by omega)) (by omega)
  obtain ⟨p7, E7, t7, -, k⟩ := num_sc (e := -1) (a := 0) (m := 12) (by omega) k h0 (by omega)
  obtain ⟨p8, E8, k⟩ := sgn_ok (e := -1) k h0 hz
  rw [← E0] at E1 t1
  have F1 : hq1 g n (0, 0, -1) = (p1, 0, -1) := E1
  rw [← F1] at E2 t2
  have F2 : hq2 g n (0, 0, -1) = (p2, 0, -1) := E2
  rw [← F2] at E3 t3
  have F3 : hq3 g n (0, 0, -1) = (p3, 0, -1) := E3
  rw [← F3] at E4 t4
  have F4 : hq4 g n (0, 0, -1) = (p4, 0, -1) := E4
  rw [← F4] at E5 t5
  have F5 : hq5 g n (0, 0, -1) = (p5, 0, -1) := E5
  rw [← F5] at E6 t6
  have F6 : hq6 g n (0, 0, -1) = (p6, 0, -1) := E6
  rw [← F6] at E7 t7
  have F7 : hq7 g n (0, 0, -1) = (p7, 0, -1) := E7
  rw [← F7] at E8
  refine ⟨p8, _, by rw [hs]; exact Prod.ext E8 rfl, k, ?_⟩
  unfold hdm
  dsimp only
  rw [t1, t2, t3, t4, t5, t6, t7]
  refine ⟨?_, ?_, ?_, ?_, ?_, ?_, ?_, wr_s _ _ _ _⟩
  · rw [wr_ni (by decide), wr_ni (by decide), wr_ni (by decide), wr_ni (by decide), wr_ni (by decide), wr_ni (by decide), wr_ni (by decide), wr_s]
  · rw [wr_ni (by decide), wr_ni (by decide), wr_ni (by decide), wr_ni (by decide), wr_ni (by decide), wr_ni (by decide), wr_s]
  · rw [wr_ni (by decide), wr_ni (by decide), wr_ni (by decide), wr_ni (by decide), wr_ni (by decide), wr_s]
  · rw [wr_ni (by decide), wr_ni (by decide), wr_ni (by decide), wr_ni (by decide), wr_s]
  · rw [wr_ni (by decide), wr_ni (by decide), wr_ni (by decide), wr_s]
  · rw [wr_ni (by decide), wr_ni (by decide), wr_s]
  · rw [wr_ni (by decide), wr_s]
theorem mem_parse {k w pl pu : Nat} {ν : Mem} (h : TK g n p (mtx k w pl pu ++ X)) (h0 : g (n : Int) = 0) (hz : nz X) (hk : k < 12) (h7 : ν 15 7 = (k : Nat)) (hnm : ∀ m : Nat, m < k → ν 16 m = 417 + (m : Int)) (hw : 1 ≤ w ∧ w ≤ 9) (hpl : pl ≤ 20) (hpu : pu ≤ 11) :
    ∃ q ν', tkK g p = 1 ∧ mst g n ((p, 0, e), ν) = ((q, 0, e), ν') ∧ TK g n q X ∧ ν' 15 7 = ((k + 1 : Nat) : Int) ∧ ν' 16 k = 417 + (k : Int) ∧ ν' 17 k = (w : Nat) ∧ ν' 18 k = (pl : Nat) ∧ ν' 19 k = (pu : Nat) ∧ (∀ j, j ≠ 7 → ν' 15 j = ν 15 j) ∧ ∀ r j, 16 ≤ r → r ≤ 19 → j ≠ k → ν' r j = ν r j := by
  simp only [mtx, lm_member, List.append_assoc] at h
  have n1 : nz ([109, 97 + (k : Int)] ++ ([32] ++ (dgl w ++ ([32] ++ (dgl pl ++ ([32] ++ (dgl pu ++ ([59] ++ X)))))))) := fun c t w => by
    have := (List.cons.inj w).1
    rw [← this]; decide
  obtain ⟨k1, k2, k3, k4⟩ := wrd_ok (w := [109, 101, 109, 98, 101, 114]) (by decide) (by decide) h h0 n1
  have hA : atw g n p "member" := atw_ok (l := [109, 101, 109, 98, 101, 114]) (by decide +kernel) (fun j hj => ch_member ⟨j, hj⟩) k1 k2 (TK_app h).1
  obtain ⟨p1, e1⟩ : ∃ p1, p1 = p + ([109, 101, 109, 98, 101, 114] : List Int).length + 1 := ⟨_, rfl⟩
  rw [← e1] at k3 k4
  have E1 : mq1 g n (p, 0, e) ν = (p1, 0, e) := by
    unfold mq1
    rw [mus_t (s := (p, 0, e)) hA, mus_t (s := (p, 0, e)) (show ν 15 7 < 12 by rw [h7]; omega), gon_ok rfl, k3]
  obtain ⟨q1, q2, q3, q4⟩ := wrd_ok (w := [109, 97 + (k : Int)]) (fun c hc => by
    simp only [List.mem_cons, List.not_mem_nil, or_false] at hc
    rcases hc with rfl | rfl
    · decide
    · omega) (by simp) k4 h0 (dgl_nz (by omega))
  have hN : mqn g n (p, 0, e) ν = 417 + (k : Int) := by
    unfold mqn
    rw [E1]
    show nbt g p1 (tkE g n p1) = _
    rw [q2]
    have g0 := (TK_app k4).1 0 _ rfl
    have g1 := (TK_app k4).1 1 _ rfl
    unfold nbt
    rw [show p1 + [109, 97 + (k : Int)].length - p1 = 2 by rw [Nat.add_sub_cancel_left]; rfl, if_neg (by decide)]
    have hl : ltr g 2 p1 = true := by
      show (if kd (g (p1 : Int)) = 1 then (if kd (g ((p1 + 1 : Nat) : Int)) = 1 then true else false) else false) = true
      rw [if_pos (by rw [show g (p1 : Int) = 109 from g0]; decide), if_pos (by rw [g1]; exact kd_1.mpr ⟨by omega, by omega⟩)]
    rw [if_pos hl]
    show 32 * (32 * 0 + (g (p1 : Int) - 97 + 1)) + (g ((p1 + 1 : Nat) : Int) - 97 + 1) = 417 + (k : Int)
    rw [show g (p1 : Int) = 109 from g0, g1]
    omega
  obtain ⟨p2, e2⟩ : ∃ p2, p2 = p1 + [109, 97 + (k : Int)].length + 1 := ⟨_, rfl⟩
  rw [← e2] at q3 q4
  have hkn : (ν 15 7).toNat = k := by rw [h7]; omega
  have E2 : mq2 g n (p, 0, e) ν = (p2, 0, e) := by
    unfold mq2
    rw [E1, hN]
    unfold nms
    rw [mus_t (s := (p1, 0, e)) q1, mus_t (s := (p1, 0, e)) (show ¬ 6 < tkE g n p1 - p1 by rw [q2, Nat.add_sub_cancel_left]; show ¬ 6 < 2; decide), mus_t (s := (p1, 0, e)) (by
      rw [hkn]
      exact fnd_none k (fun m hm w => by rw [hnm m hm] at w; omega)), gon_ok rfl, q3]
  obtain ⟨p3, E3, -, v3, kk⟩ := num_sp (e := e) (a := 1) (m := 9) (by omega) q4 h0 (dgl_nz (by omega)) (by omega)
  obtain ⟨p4, E4, -, v4, kk⟩ := num_sp (e := e) (a := 0) (m := 20) (by omega) kk h0 (dgl_nz (by omega)) (by omega)
  obtain ⟨p5, E5, -, v5, kk⟩ := num_sc (e := e) (a := 0) (m := 99) (by omega) kk h0 (by omega)
  obtain ⟨p6, E6, kk⟩ := sgn_ok (e := e) kk h0 hz
  have G3 : mq3 g n (p, 0, e) ν = (p3, 0, e) := by unfold mq3; rw [E2]; exact E3
  have G4 : mq4 g n (p, 0, e) ν = (p4, 0, e) := by unfold mq4; rw [G3]; exact E4
  have G5 : mq5 g n (p, 0, e) ν = (p5, 0, e) := by unfold mq5; rw [G4]; exact E5
  have G6 : mq6 g n (p, 0, e) ν = (p6, 0, e) := by unfold mq6; rw [G5]; exact E6
  have hM : mst g n ((p, 0, e), ν) = ((p6, 0, e), mwr g n (p, 0, e) ν) := by
    show (mq6 g n (p, 0, e) ν, if (mq6 g n (p, 0, e) ν).2.1 = 0 then mwr g n (p, 0, e) ν else ν) = _
    rw [G6]
    rfl
  refine ⟨p6, mwr g n (p, 0, e) ν, k1, hM, kk, ?_⟩
  unfold mwr
  rw [hkn, hN, E2, G3, G4, h7]
  dsimp only
  rw [v3, v4, v5]
  refine ⟨?_, ?_, ?_, ?_, ?_, fun j hj => ?_, fun r j h1 h2 hj => ?_⟩
  · rw [wr_s]; omega
  · rw [wr_na (by decide), wr_na (by decide), wr_na (by decide), wr_na (by decide), wr_s]
  · rw [wr_na (by decide), wr_na (by decide), wr_na (by decide), wr_s]
  · rw [wr_na (by decide), wr_na (by decide), wr_s]
  · rw [wr_na (by decide), wr_s]
  · rw [wr_ni hj, wr_na (by decide), wr_na (by decide), wr_na (by decide), wr_na (by decide)]
  · rw [wr_na (by omega), wr_n (by omega), wr_n (by omega), wr_n (by omega), wr_n (by omega)]
theorem mtl_nz : ∀ (ms : List (Nat × Nat × Nat)) (i : Nat), nz (mtl i ms)
  | [], i => fun c t w => by cases w
  | x :: r, i => fun c t w => by
    have h : mtl i (x :: r) = 109 :: (mtl i (x :: r)).tail := by
      simp only [mtl, mtx, lm_member, List.append_assoc]
      rfl
    rw [h] at w
    have := (List.cons.inj w).1
    rw [← this]; decide
theorem rd_parse (h0 : g (n : Int) = 0) : ∀ (rest : List (Nat × Nat × Nat)) (i p fuel : Nat) (ν : Mem), TK g n p (mtl i rest) → i + rest.length ≤ 12 → rest.length ≤ fuel → ν 15 7 = (i : Nat) → (∀ m : Nat, m < i → ν 16 m = 417 + (m : Int)) → okM rest →
    ∃ ν', rdl g n fuel ((p, 0, e), ν) = ((n, 0, e), ν') ∧ ν' 15 7 = ((i + rest.length : Nat) : Int) ∧ (∀ j x, rest[j]? = some x → ν' 17 (i + j) = (x.1 : Nat) ∧ ν' 18 (i + j) = (x.2.1 : Nat) ∧ ν' 19 (i + j) = (x.2.2 : Nat)) ∧ (∀ j, j ≠ 7 → ν' 15 j = ν 15 j) ∧ ∀ r j, 17 ≤ r → r ≤ 19 → j < i → ν' r j = ν r j
  | [], i, p, fuel, ν, h, h12, hf, h7, hnm, ho => by
    have ep : p = n := by have := h.2; simp only [mtl, List.length_nil] at this; omega
    subst ep
    have hK : tkK g p = 0 := by unfold tkK; rw [h0]; decide
    refine ⟨ν, ?_, by rw [h7]; rfl, fun j x hj => (by cases hj), fun j hj => rfl, fun r j _ _ _ => rfl⟩
    cases fuel with
    | zero => rfl
    | succ f => exact if_neg (fun w => w.2 hK)
  | x :: rest, i, p, 0, ν, h, h12, hf, h7, hnm, ho => by simp only [List.length_cons] at hf; omega
  | x :: rest, i, p, fuel + 1, ν, h, h12, hf, h7, hnm, ho => by
    simp only [List.length_cons] at hf h12
    obtain ⟨o1, o2, o3⟩ := ho x List.mem_cons_self
    obtain ⟨q, ν1, hk, hM, ht, g7, g16, g17, g18, g19, g15, gr⟩ := mem_parse (e := e) h h0 (mtl_nz rest (i + 1)) (by omega) h7 hnm o1 o2 o3
    obtain ⟨ν', r1, r2, r3, r4, r5⟩ := rd_parse h0 rest (i + 1) q fuel ν1 ht (by omega) (by omega) g7 (fun m hm => by
      by_cases w : m = i
      · rw [w]; exact g16
      · rw [gr 16 m (by decide) (by decide) w]; exact hnm m (by omega)) (fun y hy => ho y (List.mem_cons_of_mem _ hy))
    refine ⟨ν', ?_, ?_, fun j z hj => ?_, fun j hj => (r4 j hj).trans (g15 j hj), fun r j h1 h2 hj => (r5 r j h1 h2 (by omega)).trans (gr r j (by omega) h2 (by omega))⟩
    · show (if ((p, 0, e) : Sta).2.1 = 0 ∧ tkK g ((p, 0, e) : Sta).1 ≠ 0 then rdl g n fuel (mst g n ((p, 0, e), ν)) else ((p, 0, e), ν)) = _
      rw [if_pos ⟨rfl, by show tkK g p ≠ 0; rw [hk]; decide⟩, hM]
      exact r1
    · rw [r2, List.length_cons]
      omega
    · cases j with
      | zero =>
        cases hj
        rw [Nat.add_zero, r5 17 i (by decide) (by decide) (by omega), r5 18 i (by decide) (by decide) (by omega), r5 19 i (by decide) (by decide) (by omega)]
        exact ⟨g17, g18, g19⟩
      | succ j =>
        have := r3 j z hj
        rw [show i + 1 + j = i + (j + 1) by omega] at this
        exact this
/-- the whole text, read from its start -/
theorem tx_parse {w0 w1 w2 w3 w4 w5 w6 : Nat} (hw : (1 ≤ w0 ∧ w0 ≤ 4) ∧ w1 ≤ 5 ∧ (1 ≤ w2 ∧ w2 ≤ 20) ∧ w3 ≤ 20 ∧ (2 ≤ w4 ∧ w4 ≤ 30) ∧ w5 ≤ 9 ∧ w6 ≤ 12) {ms : List (Nat × Nat × Nat)} (hn : 1 ≤ ms.length ∧ ms.length ≤ 12) (ho : okM ms) (h : TK g n 0 (hdT w0 w1 w2 w3 w4 w5 w6 ++ mtl 0 ms)) (h0 : g (n : Int) = 0) (M : Mem) :
    ∃ ν', rdS g n (st0 g n) M = ((n, 0, -1), ν') ∧ (ν' 15 0 = (w0 : Nat) ∧ ν' 15 1 = (w1 : Nat) ∧ ν' 15 2 = (w2 : Nat) ∧ ν' 15 3 = (w3 : Nat) ∧ ν' 15 4 = (w4 : Nat) ∧ ν' 15 5 = (w5 : Nat) ∧ ν' 15 6 = (w6 : Nat) ∧ ν' 15 7 = (ms.length : Nat)) ∧ ∀ j x, ms[j]? = some x → ν' 17 j = (x.1 : Nat) ∧ ν' 18 j = (x.2.1 : Nat) ∧ ν' 19 j = (x.2.2 : Nat) := by
  obtain ⟨q, M', e1, ht, a0, a1, a2, a3, a4, a5, a6, a7⟩ := hd_parse hw h h0 (mtl_nz ms 0) M
  obtain ⟨ν', r1, r2, r3, r4, -⟩ := rd_parse (e := -1) h0 ms 0 q 13 M' ht (by omega) (by omega) a7 (fun m hm => by omega) ho
  refine ⟨ν', ?_, ⟨(r4 0 (by decide)).trans a0, (r4 1 (by decide)).trans a1, (r4 2 (by decide)).trans a2, (r4 3 (by decide)).trans a3, (r4 4 (by decide)).trans a4, (r4 5 (by decide)).trans a5, (r4 6 (by decide)).trans a6, by rw [r2, Nat.zero_add]⟩, fun j x hj => by
    have := r3 j x hj
    rw [Nat.zero_add] at this
    exact this⟩
  unfold rdS
  rw [e1]
  cases ms with
  | nil => exact absurd hn.1 (by decide)
  | cons x r =>
    have hk : tkK g q = 1 := by
      obtain ⟨o1, o2, o3⟩ := ho x List.mem_cons_self
      obtain ⟨q9, ν9, hk, -⟩ := mem_parse (e := -1) (ν := M') ht h0 (mtl_nz r 1) (by decide) a7 (fun m hm => by omega) o1 o2 o3
      exact hk
    rw [← r1]
    show _ = (if ((q, 0, -1) : Sta).2.1 = 0 ∧ tkK g ((q, 0, -1) : Sta).1 ≠ 0 then rdl g n 12 (mst g n ((q, 0, -1), M')) else ((q, 0, -1), M'))
    rw [if_pos ⟨rfl, by show tkK g q ≠ 0; rw [hk]; decide⟩]
end Parse
