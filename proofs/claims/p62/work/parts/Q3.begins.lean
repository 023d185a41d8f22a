/-! BEGINS: its end, and as a method -/
def okL (l : List Int) : Prop := ∀ c ∈ l, 1 ≤ c ∧ c < 128
theorem okL_app {a b : List Int} (h : okL a) (g : okL b) : okL (a ++ b) := fun c hc => (List.mem_append.mp hc).elim (h c) (g c)
theorem okL_d {v : Nat} (hv : v < 100) : okL (dgl v) := fun c hc => by
  obtain ⟨j, hj⟩ := List.getElem?_of_mem hc
  have := dgl_c hv hj
  omega
theorem okL_1 {c : Int} (h : 1 ≤ c ∧ c < 128) : okL [c] := fun d hd => by rw [List.mem_singleton.mp hd]; exact h
theorem okL_hd {w0 w1 w2 w3 w4 w5 w6 : Nat} (hw : w0 < 100 ∧ w1 < 100 ∧ w2 < 100 ∧ w3 < 100 ∧ w4 < 100 ∧ w5 < 100 ∧ w6 < 100) : okL (hdT w0 w1 w2 w3 w4 w5 w6) := by
  obtain ⟨h0, h1, h2, h3, h4, h5, h6⟩ := hw
  have b : okL [32] := okL_1 (by decide)
  have a : okL (lx 6 hs9) := by unfold okL; decide +kernel
  unfold hdT
  exact okL_app (okL_app (okL_app (okL_app (okL_app (okL_app (okL_app (okL_app (okL_app (okL_app (okL_app (okL_app (okL_app (okL_app a (okL_d h0)) b) (okL_d h1)) b) (okL_d h2)) b) (okL_d h3)) b) (okL_d h4)) b) (okL_d h5)) b) (okL_d h6)) (okL_1 (by decide))
theorem okL_m : ∀ (ms : List (Nat × Nat × Nat)) (i : Nat), i + ms.length ≤ 12 → okM ms → okL (mtl i ms)
  | [], i, _, _ => fun c hc => by cases hc
  | x :: r, i, hi, ho => by
    simp only [List.length_cons] at hi
    obtain ⟨o1, o2, o3⟩ := ho x List.mem_cons_self
    have b : okL [32] := okL_1 (by decide)
    have a : okL (lx 7 ms9) := by unfold okL; decide +kernel
    have c : okL [109, 97 + (i : Int)] := fun d hd => by
      simp only [List.mem_cons, List.not_mem_nil, or_false] at hd
      omega
    show okL (mtx i x.1 x.2.1 x.2.2 ++ mtl (i + 1) r)
    unfold mtx
    exact okL_app (okL_app a (okL_app c (okL_app b (okL_app (okL_d (by omega)) (okL_app b (okL_app (okL_d (by omega)) (okL_app b (okL_app (okL_d (by omega)) (okL_1 (by decide)))))))))) (okL_m r (i + 1) (by omega) (fun y hy => ho y (List.mem_cons_of_mem _ hy)))
/-- begins' end -/
def Rbg (ad : Nat → Nat) : Option Value → (Nat → Nat) → Mem → va_W → Prop := fun r ad' μ' _ => r = some (.int (iI 1)) ∧ (∀ k, k < 293 ∨ k = 5005 ∨ 6000 ≤ k → ad' k = ad k) ∧ LV 0 μ' ∧ ∃ n : Nat, n < 8 ∧ μ' 62 1 = (n : Int) ∧ μ' 62 2 = 0
section BegEnd
variable {D : va_G} {cy : Nat → ClassId} {X0 : Nat → Prop} {ad ad0 : Nat → Nat} {PX : String → State → State → Prop} {L : Nat} {xs : Nat → Int32}
set_option maxRecDepth 8000 in
theorem bg_382 {w0 w1 w2 w3 w4 w5 w6 : Nat} (hw : (1 ≤ w0 ∧ w0 ≤ 4) ∧ w1 ≤ 5 ∧ (1 ≤ w2 ∧ w2 ≤ 20) ∧ w3 ≤ 20 ∧ (2 ≤ w4 ∧ w4 ≤ 30) ∧ w5 ≤ 9 ∧ w6 ≤ 12) {ms : List (Nat × Nat × Nat)} (hn : 1 ≤ ms.length ∧ ms.length ≤ 12) (ho : okM ms) {μ : Mem} {cap : Int} {E : va_W} {kr sr : Nat} (hb : BI (hdT w0 w1 w2 w3 w4 w5 w6 ++ mtl 0 ms) cap μ μ) (hA0 : ∀ k, k < 293 ∨ k = 5005 ∨ 6000 ≤ k → ad k = ad0 k)
    (hT : wfT μ) (h11 : μ 1 1 = 0) {n6 : Nat} (hn6 : n6 < 8) (h62 : μ 62 1 = (n6 : Nat))
    (o0 : μ 276 0 = (w0 : Nat) ∧ μ 276 1 = (w1 : Nat) ∧ μ 276 2 = (w2 : Nat) ∧ μ 276 3 = (w3 : Nat) ∧ μ 276 4 = (w4 : Nat) ∧ μ 276 5 = (w5 : Nat) ∧ μ 276 6 = (w6 : Nat) ∧ μ 276 8 = (ms.length : Nat)) (oz : ∀ j, 7 ≤ j → j < 14 → j ≠ 8 → μ 276 j = 0) (hm : MR ms μ) (h5 : ∀ m, μ 281 m = 0) (h7 : ∀ q, μ 283 q = 0 ∧ μ 284 q = 0 ∧ μ 285 q = 0) (h87 : ∀ h, h < 4 → μ 287 h = -1) (h14 : ∀ r, μ 290 r = 0) :
    gl D cy X0 293 ad E 10 (kr + 2) (sr + 259) (mL_begins L xs) (cR D cy X0 293 (Rbg ad0)) PX 382 [.ref 0, .ref 276, .ref 6000, .ref 5000, .null] [] μ := by
  obtain ⟨l, el⟩ : ∃ l, l = hdT w0 w1 w2 w3 w4 w5 w6 ++ mtl 0 ms := ⟨_, rfl⟩
  have hlen : l.length ≤ 255 := by
    have h1 := hdT_l (w0 := w0) (w1 := w1) (w2 := w2) (w3 := w3) (w4 := w4) (w5 := w5) (w6 := w6)
    have h2 := mtl_l ms 0
    rw [el, List.length_append]
    omega
  have hok : okL l := by rw [el]; exact okL_app (okL_hd (by omega)) (okL_m ms 0 (by omega) ho)
  rw [← el] at hb
  obtain ⟨⟨b0, b1⟩, b2, b3, b4, b5⟩ := hb
  have hlt : ∀ j, j < l.length → ∃ c, l[j]? = some c ∧ 1 ≤ c ∧ c < 128 ∧ μ 5001 j = c := fun j hj => by
    have hg : l[j]? = some l[j] := List.getElem?_eq_getElem hj
    obtain ⟨q1, q2⟩ := hok _ (List.mem_of_getElem? hg)
    exact ⟨_, hg, q1, q2, b1 j _ hg⟩
  refine gl_aload_n (y := mL_begins L xs) (pc := 382) dL_begins_382 rfl rfl ?_
  refine gl_aload_n (y := mL_begins L xs) (pc := 383) dL_begins_383 rfl rfl ?_
  refine gl_callGV (y := mL_begins L xs) (pc := 384) (d' := 5) (kc' := 2) (ks' := l.length + 4) (kc2 := 0) (ks2 := 0) (n := 0) (y' := mJ4_toString_0e30d) (as := []) (rest := [.ref 0]) (G9 := []) (Fr := E) (R9 := Rts cy ad μ l.length) dL_begins_384 rfl rfl ml_L_46 ⟨ok_J4_toString_0e30d.1, ok_J4_toString_0e30d.2.1⟩ se_J4_toString_0e30d (by decide) rfl (by decide) (by intro v hv; cases hv) (by decide) (by decide) (by omega) (by omega) (fun X1 => sb_toString b0 (by rw [b3]; exact b5) (by omega)) (fun r ad' μ' G' h => ?_)
  obtain ⟨ta, tb, f, rfl, n2, n3, n4, n5, rfl, hf⟩ := h
  have hTx : nTx (mL_begins L xs) := fun L' xs' e => by cases e
  refine ⟨⟨n2 _ (by decide), Or.inl hTx, fun k hk => n2 k (by omega)⟩, okr_map (P := fun k => k < 293 ∨ k = 6000 ∨ k = 5000) (okr_ref (by decide) (okr_ref (by decide) (okr_ref (by decide) (okr_ref (by decide) (okr_null okr_nil))))) (fun k hk => n2 k (by omega)), okr_map (P := fun k => k = 0) (okr_ref rfl okr_nil) (fun k hk => n2 k (by omega)), ?_⟩
  refine gl_null 3 ?_
  refine gl_cells (F3 := [(tb, .inl (cy 2, l.length, .inl f)), (ta, .inr (0, [.ref tb, .int (iI 0), .int (iI 0), .int (iI 0)]))]) (G := E) (List.Perm.refl _) ?_
  have hM : ∀ b j, b < 5000 → μ' b j = μ b j := fun b j hb => n4 b j (by omega)
  have hch : ∀ j, j < l.length → ∃ c, l[j]? = some c ∧ 1 ≤ c ∧ c < 128 ∧ chx f j = c := fun j hj => by
    obtain ⟨c, g1, g2, g3, g4⟩ := hlt j hj
    refine ⟨c, g1, g2, g3, ?_⟩
    show (f j).toInt = c
    rw [hf j hj, g4, iI_t ⟨by omega, by omega⟩]
  have hT' : wfT μ' := by
    obtain ⟨q1, q2, q3⟩ := hT
    refine ⟨?_, ?_, fun k hk => ?_⟩
    · rw [hM 1 1 (by decide)]; exact q1
    · rw [hM 1 1 (by decide)]; exact q2
    · rw [hM 2 k (by decide)]; exact q3 k hk
  refine gl_callSt (y := mL_begins L xs) (pc := 387) (z' := 276) (d' := 8) (kc' := 0) (ks' := 0) (kc2 := 0) (ks2 := 0) (n := 2) (ta := ta) (tb := tb) (L := l.length) (xs := f) (y' := mL_feeds l.length f) (as := [.ref 0, .ref 405]) (as' := [.ref 0, .ref 6100]) (rest := []) dL_begins_387 rfl ml_L_371 ok_L_feeds rfl (by decide) ⟨by omega, Or.inr ⟨1, 0, _, _, rfl, rfl⟩⟩ ?_ rfl (show (2 : Nat) ≤ 4 by decide) (by intro v hv; simp only [List.mem_cons, List.not_mem_nil, or_false] at hv; rcases hv with rfl | rfl <;> rfl) (by decide) (by decide) (by decide) (by omega) (by omega) ?_
  · show [Value.ref _, Value.ref _] = [Value.ref _, Value.ref _]
    rw [adt_0, n3, adt_n (by decide)]
  refine l_feeds (by omega) (fun j hj => ?_) hT' (by rw [hM 1 1 (by decide)]; exact h11) (fun ν hX => ?_)
  · obtain ⟨c, g1, g2, g3, g4⟩ := hch j hj
    rw [g4]
    exact ⟨g2, g3⟩
  refine ⟨⟨fun w => (by cases w), fun w => (by cases w)⟩, ?_⟩
  obtain ⟨x1, x2, x3, x4⟩ := hX
  rw [Nat.min_self] at x1 x2
  have hN : ∀ b j, 3 ≤ b → b < 5000 → ν b j = μ b j := fun b j h1 h2 => (x4 b j ⟨by omega, by omega⟩).trans (hM b j h2)
  have hok9 : okT (tx ν) l.length ν := ⟨rfl, x1, x3⟩
  have g0 : tx ν (l.length : Nat) = 0 := by
    unfold tx
    rw [x1, if_neg (by omega)]
  have hTK : TK (tx ν) l.length 0 l := by
    refine ⟨fun j c hj => ?_, Nat.zero_add _⟩
    have hjl := (List.getElem?_eq_some_iff.mp hj).1
    obtain ⟨c', g1, g2, g3, g4⟩ := hch j hjl
    rw [hj] at g1
    have ec : c = c' := by injection g1
    unfold tx
    rw [x1, if_pos ⟨by omega, by omega⟩, show (((0 + j : Nat) : Int)).toNat = j by omega, x2 j hjl, g4]
    unfold ub
    rw [if_neg (by omega), ec]
  rw [el] at hTK
  rw [← el] at hTK
  obtain ⟨ν', p1, p2, p3⟩ := tx_parse (g := tx ν) (n := l.length) hw hn ho (by rw [← el]; exact hTK) g0 ν
  refine gl_if_eq (y := mL_begins L xs) (pc := 390) (tgt := 412) dL_begins_390 (by decide) (by decide) (fun h => absurd h (by decide)) (fun _ => ?_)
  refine gl_aload_n (y := mL_begins L xs) (pc := 393) dL_begins_393 rfl rfl ?_
  refine gl_callV (y := mL_begins L xs) (pc := 394) (z' := 276) (d' := 9) (kc' := 0) (ks' := 0) (kc2 := 0) (ks2 := 0) (b := 0) (y' := mX10_load) (as := []) (rest := []) dL_begins_394 rfl ml_L_375 ok_X10_load rfl ⟨_, _, rfl⟩ (by decide) rfl (by decide) (by intro v hv; cases hv) (by decide) (by decide) (by decide) (by omega) (by omega) ?_
  refine g_load hok9 (fun hs μ2 hμ => ?_) (fun hs => absurd (by rw [p1]) hs)
  have hLV : LV 0 (tkE9 μ2) := LV_new hw hn ho p1 p2 p3 hμ (by
      rw [hN 276 0 (by decide) (by decide), hN 276 1 (by decide) (by decide), hN 276 2 (by decide) (by decide), hN 276 3 (by decide) (by decide), hN 276 4 (by decide) (by decide), hN 276 5 (by decide) (by decide), hN 276 6 (by decide) (by decide), hN 276 8 (by decide) (by decide)]
      exact o0) (fun j h1 h2 h3 => (hN 276 j (by decide) (by decide)).trans (oz j h1 h2 h3)) (fun i x hx => by
      rw [hN 277 i (by decide) (by decide), hN 278 i (by decide) (by decide), hN 279 i (by decide) (by decide), hN 280 i (by decide) (by decide)]
      exact hm i x hx) (fun m => (hN 281 m (by decide) (by decide)).trans (h5 m)) (fun q => by
      rw [hN 283 q (by decide) (by decide), hN 284 q (by decide) (by decide), hN 285 q (by decide) (by decide)]
      exact h7 q) (fun h hh => (hN 287 h (by decide) (by decide)).trans (h87 h hh)) (fun r => (hN 290 r (by decide) (by decide)).trans (h14 r))
  obtain ⟨u1, u2, u3, u4, u5, u6⟩ := hμ
  refine gl_if_ne (y := mL_begins L xs) (pc := 397) (tgt := 412) dL_begins_397 (by decide) rng0 (fun h => absurd rfl h) (fun _ => ?_)
  refine gl_aload_n (y := mL_begins L xs) (pc := 400) dL_begins_400 rfl rfl ?_
  refine gl_callV (y := mL_begins L xs) (pc := 401) (z' := 276) (d' := 3) (kc' := 0) (ks' := 0) (kc2 := 0) (ks2 := 0) (b := 0) (y' := mX10_errorPosition) (as := []) (rest := []) dL_begins_401 rfl ml_L_378 ok_X10_errorPosition rfl ⟨_, _, rfl⟩ (by decide) rfl (by decide) (by intro v hv; cases hv) (by decide) (by decide) (by decide) (by omega) (by omega) ?_
  refine q_errorPosition hLV.1 hLV.2.1 ?_
  have e35 : tkE9 μ2 3 5 = -1 := by
    unfold tkE9
    rw [put_o (by decide), wr_na (by decide), wr_na (by decide), wr_na (by decide), u4, p1]
  refine gl_top (b := (-1 : Int)) e35 (fun _ => ?_)
  refine gl_iconst (y := mL_begins L xs) (pc := 404) dL_begins_404 ?_
  refine gl_icmp_ne (y := mL_begins L xs) (pc := 405) (tgt := 412) dL_begins_405 (by decide) (by decide) (by decide) (fun h => absurd rfl h) (fun _ => ?_)
  refine gl_iconst (y := mL_begins L xs) (pc := 408) dL_begins_408 ?_
  refine gl_goto (y := mL_begins L xs) (pc := 409) (tgt := 413) dL_begins_409 (by decide) ?_
  refine gl_zreturnR (y := mL_begins L xs) (pc := 413) dL_begins_413 rfl (Or.inr rfl) ⟨rfl, fun k hk => (n2 k (by omega)).trans (hA0 k hk), hLV, n6, hn6, ?_, ?_⟩
  · unfold tkE9
    rw [put_o (by decide), wr_na (by decide), wr_na (by decide), wr_ni (by decide), u1 62 1 (by decide) (by decide) (by decide), hN 62 1 (by decide) (by decide)]
    exact h62
  · unfold tkE9
    rw [put_o (by decide), wr_na (by decide), wr_na (by decide), wr_s]
end BegEnd
