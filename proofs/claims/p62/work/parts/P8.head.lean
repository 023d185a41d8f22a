/-! BEGINS: the text's head -/
def BI (l : List Int) (cap : Int) (μ0 μ : Mem) : Prop := OL l μ ∧ eqO μ μ0 ∧ μ 5002 0 = cap ∧ chn cap ∧ (l.length : Int) ≤ cap
theorem BI_0 {l : List Int} {cap : Int} {μ0 μ : Mem} (h : BI l cap μ0 μ) : 0 ≤ μ 5000 0 ∧ μ 5000 0 ≤ μ 5002 0 := by
  obtain ⟨o, -, c, -, le⟩ := h
  rw [o.1, c]
  omega
theorem dgl_l (v : Nat) : 1 ≤ (dgl v).length ∧ (dgl v).length ≤ 2 := by
  rw [dgl_n]
  split <;> decide
section App
variable {D : va_G} {cy : Nat → ClassId} {X0 : Nat → Prop} {nn : Nat} {ad : Nat → Nat} {F9 : va_W} {d kr sr : Nat} {y : MI} {PQ : Array Value → State → Outcome → State → Prop} {PX : String → State → State → Prop} {pc idx : Nat} {ls st : List Value} {μ μ0 : Mem} {l : List Int} {cap : Int}
theorem gl_apC {c : Int} (hd : decode y.2.1 pc = .ok (.invokevirtual idx, 3)) (hlk : Cond.methodLink y.1.cls idx yJ4_append_cf468 ∈ aw) (hn : 276 ≤ nn) (hb : BI l cap μ0 μ) (hc : 0 ≤ c ∧ c < 128) (hl : (l.length : Int) + 1 ≤ 382) (hW : (st.map fun v => v.category).sum ≤ 8) (hdd : 6 ≤ d)
    (K : ∀ μ' cap', cap ≤ cap' → BI (l ++ [c]) cap' μ0 μ' → gl D cy X0 nn ad F9 d (kB cap' + kr) (sB cap' + sr) y PQ PX (pc + 3) ls (.ref 5000 :: st) μ') : gl D cy X0 nn ad F9 d (kB cap + kr) (sB cap + sr) y PQ PX pc ls (.int (iI c) :: .ref 5000 :: st) μ := by
  have h0 := BI_0 hb
  obtain ⟨o, q, c2, hcn, hle⟩ := hb
  have hch : chk (μ 5002 0) ((l.length : Int) + 1) := Or.inl (by rw [c2]; exact hcn)
  obtain ⟨p1, p2, p3⟩ := apm_OL (c := c) o h0.2 q.2 hch hl
  obtain ⟨g1, g2, g3⟩ := cpf_c hcn hl
  obtain ⟨k1, k2⟩ := kB_le hcn g1 g2
  rw [c2] at p3
  refine gl_callB (z' := 276) (d' := 5) (kc' := kB cap - kB (cpf cap (l.length + 1))) (ks' := sB cap - sB (cpf cap (l.length + 1))) (kc2 := kB (cpf cap (l.length + 1)) + kr) (ks2 := sB (cpf cap (l.length + 1)) + sr) (y' := mJ4_append_cf468) (as := [.int (iI c)]) (rest := st) hd rfl hlk ok_J4_append_cf468 ⟨_, _, rfl⟩ hn rfl (Nat.le_of_ble_eq_true rfl) (by intro v hv; rw [List.mem_singleton.mp hv]; rfl) hW hn (by omega) (by omega) (by omega) (sb_apC hc q.2 h0 (by rw [o.1]; exact hch) (by rw [o.1]; exact hl) (by rw [o.1, c2]; omega) (by rw [o.1, c2]; omega) ?_)
  exact K _ _ g2 ⟨p1, eqO_t p2 q, p3, g1, by rw [List.length_append]; exact g3⟩
theorem gl_apI {v : Nat} (hd : decode y.2.1 pc = .ok (.invokevirtual idx, 3)) (hlk : Cond.methodLink y.1.cls idx yJ4_append_bf812 ∈ aw) (hn : 276 ≤ nn) (hb : BI l cap μ0 μ) (hv : v < 100) (hl : (l.length : Int) + 2 ≤ 382) (hW : (st.map fun v => v.category).sum ≤ 8) (hdd : 6 ≤ d)
    (K : ∀ μ' cap', cap ≤ cap' → BI (l ++ dgl v) cap' μ0 μ' → gl D cy X0 nn ad F9 d (kB cap' + kr) (sB cap' + sr) y PQ PX (pc + 3) ls (.ref 5000 :: st) μ') : gl D cy X0 nn ad F9 d (kB cap + kr) (sB cap + sr) y PQ PX pc ls (.int (iI (v : Nat)) :: .ref 5000 :: st) μ := by
  have h0 := BI_0 hb
  obtain ⟨o, q, c2, hcn, hle⟩ := hb
  have h2 := dgl_l v
  have hlen : (((l ++ dgl v).length : Nat) : Int) = (l.length : Int) + ((dgl v).length : Nat) := by rw [List.length_append]; omega
  have hl2 : (l.length : Int) + ((dgl v).length : Nat) ≤ 382 := by omega
  obtain ⟨p1, p2, p3⟩ := apn_OL (v := v) o h0.2 q.2 (by rw [c2]; exact hcn) (by rw [hlen]; exact hl2)
  obtain ⟨g1, g2, g3⟩ := cpf_c hcn hl2
  obtain ⟨k1, k2⟩ := kB_le hcn g1 g2
  rw [c2, hlen] at p3
  refine gl_callB (z' := 276) (d' := 5) (kc' := kB cap - kB (cpf cap (l.length + ((dgl v).length : Nat)))) (ks' := sB cap - sB (cpf cap (l.length + ((dgl v).length : Nat)))) (kc2 := kB (cpf cap (l.length + ((dgl v).length : Nat))) + kr) (ks2 := sB (cpf cap (l.length + ((dgl v).length : Nat))) + sr) (y' := mJ4_append_bf812) (as := [.int (iI (v : Nat))]) (rest := st) hd rfl hlk ok_J4_append_bf812 ⟨_, _, rfl⟩ hn rfl (Nat.le_of_ble_eq_true rfl) (by intro v hv; rw [List.mem_singleton.mp hv]; rfl) hW hn (by omega) (by omega) (by omega) (sb_apI hv q.2 h0 (by rw [c2]; exact hcn) (by rw [o.1]; exact hl2) (by rw [o.1, c2]; omega) (by rw [o.1, c2]; omega) ?_)
  exact K _ _ g2 ⟨p1, eqO_t p2 q, p3, g1, by rw [hlen]; exact g3⟩
theorem gl_apT {t ta tb L : Nat} {xs : Nat → Int32} (hd : decode y.2.1 pc = .ok (.invokevirtual idx, 3)) (hlk : Cond.methodLink y.1.cls idx yJ4_append_15ec4 ∈ aw) (hn : 276 ≤ nn ∧ nn ≤ 293) (htx : tav cy ad F9 ta tb L xs) (hta : ad t = ta) (hx : ∀ j, j < L → -128 ≤ chx xs j ∧ chx xs j < 128) (hb : BI l cap μ0 μ) (hl : (l.length : Int) + L ≤ 382) (hL : L ≤ 24) (hW : (st.map fun v => v.category).sum ≤ 8) (hdd : 6 ≤ d)
    (K : ∀ μ' cap', cap ≤ cap' → BI (l ++ lx L xs) cap' μ0 μ' → gl D cy X0 nn ad F9 d (kB cap' + kr) (sB cap' + sr) y PQ PX (pc + 3) ls (.ref 5000 :: st) μ') : gl D cy X0 nn ad F9 d (kB cap + kr) (sB cap + sr) y PQ PX pc ls (.ref t :: .ref 5000 :: st) μ := by
  have h0 := BI_0 hb
  obtain ⟨o, q, c2, hcn, hle⟩ := hb
  have h22 : 22 ≤ cap := by unfold chn at hcn; omega
  have hch : chk (μ 5002 0) ((l.length : Int) + L) := Or.inl (by rw [c2]; exact hcn)
  obtain ⟨p1, p2, p3⟩ := aps_OL (xs := xs) o h0.2 q.2 hch hl (by rw [c2]; omega)
  obtain ⟨g1, g2, g3⟩ := cpf_c hcn hl
  obtain ⟨k1, k2⟩ := kB_le hcn g1 g2
  rw [c2] at p3
  refine gl_callOt (z' := 276) (d' := 5) (kc' := kB cap - kB (cpf cap (l.length + L))) (ks' := sB cap - sB (cpf cap (l.length + L))) (kc2 := kB (cpf cap (l.length + L)) + kr) (ks2 := sB (cpf cap (l.length + L)) + sr) (n := 1) (ta := ta) (tb := tb) (L := L) (xs := xs) (y' := wt mJ4_append_15ec4 L xs) (as := [.ref t]) (as' := [.ref 6100]) (rest := st) hd rfl hlk (okW_t ok_J4_append_15ec4) se_J4_append_15ec4 rfl hn htx (congrArg (fun z => [Value.ref z]) (adt_0.trans hta.symm)) rfl (Nat.le_of_ble_eq_true rfl) (by intro v hv; rw [List.mem_singleton.mp hv]; rfl) hW hn.1 (by omega) (by omega) (by omega) (tt_append q.2 h0 (by rw [o.1]; exact hch) (by rw [o.1]; exact hl) (by rw [o.1, c2]; omega) hx (by rw [o.1, c2]; omega) (by rw [o.1, c2]; omega) ?_)
  exact ⟨nr61, K _ _ g2 ⟨p1, eqO_t p2 q, p3, g1, by rw [List.length_append, lx_len]; exact g3⟩⟩
end App
def hs9 : Nat → Int32 := fun j => sc_b "house " j
theorem hs9_b : ∀ j, j < 6 → -128 ≤ chx hs9 j ∧ chx hs9 j < 128 := by decide +kernel
section Head
variable {D : va_G} {cy : Nat → ClassId} {X0 : Nat → Prop} {ad : Nat → Nat} {kr sr d : Nat} {PQ : Array Value → State → Outcome → State → Prop} {PX : String → State → State → Prop} {L : Nat} {xs : Nat → Int32} {μ : Mem}
def hdT (w0 w1 w2 w3 w4 w5 w6 : Nat) : List Int := ((((((((((((((lx 6 hs9 ++ dgl w0) ++ [32]) ++ dgl w1) ++ [32]) ++ dgl w2) ++ [32]) ++ dgl w3) ++ [32]) ++ dgl w4) ++ [32]) ++ dgl w5) ++ [32]) ++ dgl w6) ++ [59])
theorem hdT_l {w0 w1 w2 w3 w4 w5 w6 : Nat} : 20 ≤ (hdT w0 w1 w2 w3 w4 w5 w6).length ∧ (hdT w0 w1 w2 w3 w4 w5 w6).length ≤ 27 := by
  have g0 := dgl_l w0
  have g1 := dgl_l w1
  have g2 := dgl_l w2
  have g3 := dgl_l w3
  have g4 := dgl_l w4
  have g5 := dgl_l w5
  have g6 := dgl_l w6
  simp only [hdT, List.length_append, List.length_cons, List.length_nil, lx_len]
  omega
set_option maxRecDepth 8000 in
theorem bg_104 {w0 w1 w2 w3 w4 w5 w6 : Nat} (h0 : μ 276 0 = (w0 : Nat)) (h1 : μ 276 1 = (w1 : Nat)) (h2 : μ 276 2 = (w2 : Nat)) (h3 : μ 276 3 = (w3 : Nat)) (h4 : μ 276 4 = (w4 : Nat)) (h5 : μ 276 5 = (w5 : Nat)) (h6 : μ 276 6 = (w6 : Nat)) (hw : w0 < 100 ∧ w1 < 100 ∧ w2 < 100 ∧ w3 < 100 ∧ w4 < 100 ∧ w5 < 100 ∧ w6 < 100) (hd : 6 ≤ d) {F9 : va_W} {m0 : Mem} {c0 : Int} (hb0 : BI (lx 6 hs9) c0 μ m0)
    (K : ∀ μ' cap, BI (hdT w0 w1 w2 w3 w4 w5 w6) cap μ μ' → gl D cy X0 293 ad F9 d (kB cap + kr) (sB cap + sr) (mL_begins L xs) PQ PX 192 [.ref 0, .ref 276, .ref 6000, .ref 5000, .int (iI ((0 : Nat) : Int))] [] μ') :
    gl D cy X0 293 ad F9 d (kB c0 + kr) (sB c0 + sr) (mL_begins L xs) PQ PX 104 [.ref 0, .ref 276, .ref 6000, .null, .null] [.ref 5000] m0 := by
  have g0 := dgl_l w0
  have g1 := dgl_l w1
  have g2 := dgl_l w2
  have g3 := dgl_l w3
  have g4 := dgl_l w4
  have g5 := dgl_l w5
  have g6 := dgl_l w6
  refine gl_aload_n (y := mL_begins L xs) (pc := 104) dL_begins_104 rfl rfl ?_
  refine gl_getI (y := mL_begins L xs) (pc := 105) dL_begins_105 fl_L_168 (ow_sh (c := 276) (Or.inl rfl) 0 (by decide)) rfl (by decide) (fun _ => ?_)
  refine gl_top (b := ((w0 : Nat) : Int)) (by rw [hb0.2.1.1 _ _ (by decide)]; exact h0) (fun _ => ?_)
  refine gl_apI (kr := kr) (sr := sr) (cap := c0) (μ0 := μ) (l := lx 6 hs9) (y := mL_begins L xs) (pc := 108) dL_begins_108 ml_L_359 (by decide) hb0 (by omega) (by simp only [List.length_append, List.length_cons, List.length_nil, lx_len]; omega) (by decide) hd (fun m1 c1 _ hb1 => ?_)
  refine gl_bipush (y := mL_begins L xs) (pc := 111) dL_begins_111 (by decide) ?_
  refine gl_apC (kr := kr) (sr := sr) (cap := c1) (μ0 := μ) (l := (lx 6 hs9 ++ dgl w0)) (y := mL_begins L xs) (pc := 113) dL_begins_113 ml_L_43 (by decide) hb1 (by decide) (by simp only [List.length_append, List.length_cons, List.length_nil, lx_len]; omega) (by decide) hd (fun m2 c2 _ hb2 => ?_)
  refine gl_aload_n (y := mL_begins L xs) (pc := 116) dL_begins_116 rfl rfl ?_
  refine gl_getI (y := mL_begins L xs) (pc := 117) dL_begins_117 fl_L_336 (ow_sh (c := 276) (Or.inl rfl) 0 (by decide)) rfl (by decide) (fun _ => ?_)
  refine gl_top (b := ((w1 : Nat) : Int)) (by rw [hb2.2.1.1 _ _ (by decide)]; exact h1) (fun _ => ?_)
  refine gl_apI (kr := kr) (sr := sr) (cap := c2) (μ0 := μ) (l := ((lx 6 hs9 ++ dgl w0) ++ [32])) (y := mL_begins L xs) (pc := 120) dL_begins_120 ml_L_359 (by decide) hb2 (by omega) (by simp only [List.length_append, List.length_cons, List.length_nil, lx_len]; omega) (by decide) hd (fun m3 c3 _ hb3 => ?_)
  refine gl_bipush (y := mL_begins L xs) (pc := 123) dL_begins_123 (by decide) ?_
  refine gl_apC (kr := kr) (sr := sr) (cap := c3) (μ0 := μ) (l := (((lx 6 hs9 ++ dgl w0) ++ [32]) ++ dgl w1)) (y := mL_begins L xs) (pc := 125) dL_begins_125 ml_L_43 (by decide) hb3 (by decide) (by simp only [List.length_append, List.length_cons, List.length_nil, lx_len]; omega) (by decide) hd (fun m4 c4 _ hb4 => ?_)
  refine gl_aload_n (y := mL_begins L xs) (pc := 128) dL_begins_128 rfl rfl ?_
  refine gl_getI (y := mL_begins L xs) (pc := 129) dL_begins_129 fl_L_339 (ow_sh (c := 276) (Or.inl rfl) 0 (by decide)) rfl (by decide) (fun _ => ?_)
  refine gl_top (b := ((w2 : Nat) : Int)) (by rw [hb4.2.1.1 _ _ (by decide)]; exact h2) (fun _ => ?_)
  refine gl_apI (kr := kr) (sr := sr) (cap := c4) (μ0 := μ) (l := ((((lx 6 hs9 ++ dgl w0) ++ [32]) ++ dgl w1) ++ [32])) (y := mL_begins L xs) (pc := 132) dL_begins_132 ml_L_359 (by decide) hb4 (by omega) (by simp only [List.length_append, List.length_cons, List.length_nil, lx_len]; omega) (by decide) hd (fun m5 c5 _ hb5 => ?_)
  refine gl_bipush (y := mL_begins L xs) (pc := 135) dL_begins_135 (by decide) ?_
  refine gl_apC (kr := kr) (sr := sr) (cap := c5) (μ0 := μ) (l := (((((lx 6 hs9 ++ dgl w0) ++ [32]) ++ dgl w1) ++ [32]) ++ dgl w2)) (y := mL_begins L xs) (pc := 137) dL_begins_137 ml_L_43 (by decide) hb5 (by decide) (by simp only [List.length_append, List.length_cons, List.length_nil, lx_len]; omega) (by decide) hd (fun m6 c6 _ hb6 => ?_)
  refine gl_aload_n (y := mL_begins L xs) (pc := 140) dL_begins_140 rfl rfl ?_
  refine gl_getI (y := mL_begins L xs) (pc := 141) dL_begins_141 fl_L_342 (ow_sh (c := 276) (Or.inl rfl) 0 (by decide)) rfl (by decide) (fun _ => ?_)
  refine gl_top (b := ((w3 : Nat) : Int)) (by rw [hb6.2.1.1 _ _ (by decide)]; exact h3) (fun _ => ?_)
  refine gl_apI (kr := kr) (sr := sr) (cap := c6) (μ0 := μ) (l := ((((((lx 6 hs9 ++ dgl w0) ++ [32]) ++ dgl w1) ++ [32]) ++ dgl w2) ++ [32])) (y := mL_begins L xs) (pc := 144) dL_begins_144 ml_L_359 (by decide) hb6 (by omega) (by simp only [List.length_append, List.length_cons, List.length_nil, lx_len]; omega) (by decide) hd (fun m7 c7 _ hb7 => ?_)
  refine gl_bipush (y := mL_begins L xs) (pc := 147) dL_begins_147 (by decide) ?_
  refine gl_apC (kr := kr) (sr := sr) (cap := c7) (μ0 := μ) (l := (((((((lx 6 hs9 ++ dgl w0) ++ [32]) ++ dgl w1) ++ [32]) ++ dgl w2) ++ [32]) ++ dgl w3)) (y := mL_begins L xs) (pc := 149) dL_begins_149 ml_L_43 (by decide) hb7 (by decide) (by simp only [List.length_append, List.length_cons, List.length_nil, lx_len]; omega) (by decide) hd (fun m8 c8 _ hb8 => ?_)
  refine gl_aload_n (y := mL_begins L xs) (pc := 152) dL_begins_152 rfl rfl ?_
  refine gl_getI (y := mL_begins L xs) (pc := 153) dL_begins_153 fl_L_345 (ow_sh (c := 276) (Or.inl rfl) 0 (by decide)) rfl (by decide) (fun _ => ?_)
  refine gl_top (b := ((w4 : Nat) : Int)) (by rw [hb8.2.1.1 _ _ (by decide)]; exact h4) (fun _ => ?_)
  refine gl_apI (kr := kr) (sr := sr) (cap := c8) (μ0 := μ) (l := ((((((((lx 6 hs9 ++ dgl w0) ++ [32]) ++ dgl w1) ++ [32]) ++ dgl w2) ++ [32]) ++ dgl w3) ++ [32])) (y := mL_begins L xs) (pc := 156) dL_begins_156 ml_L_359 (by decide) hb8 (by omega) (by simp only [List.length_append, List.length_cons, List.length_nil, lx_len]; omega) (by decide) hd (fun m9 c9 _ hb9 => ?_)
  refine gl_bipush (y := mL_begins L xs) (pc := 159) dL_begins_159 (by decide) ?_
  refine gl_apC (kr := kr) (sr := sr) (cap := c9) (μ0 := μ) (l := (((((((((lx 6 hs9 ++ dgl w0) ++ [32]) ++ dgl w1) ++ [32]) ++ dgl w2) ++ [32]) ++ dgl w3) ++ [32]) ++ dgl w4)) (y := mL_begins L xs) (pc := 161) dL_begins_161 ml_L_43 (by decide) hb9 (by decide) (by simp only [List.length_append, List.length_cons, List.length_nil, lx_len]; omega) (by decide) hd (fun m10 c10 _ hb10 => ?_)
  refine gl_aload_n (y := mL_begins L xs) (pc := 164) dL_begins_164 rfl rfl ?_
  refine gl_getI (y := mL_begins L xs) (pc := 165) dL_begins_165 fl_L_348 (ow_sh (c := 276) (Or.inl rfl) 0 (by decide)) rfl (by decide) (fun _ => ?_)
  refine gl_top (b := ((w5 : Nat) : Int)) (by rw [hb10.2.1.1 _ _ (by decide)]; exact h5) (fun _ => ?_)
  refine gl_apI (kr := kr) (sr := sr) (cap := c10) (μ0 := μ) (l := ((((((((((lx 6 hs9 ++ dgl w0) ++ [32]) ++ dgl w1) ++ [32]) ++ dgl w2) ++ [32]) ++ dgl w3) ++ [32]) ++ dgl w4) ++ [32])) (y := mL_begins L xs) (pc := 168) dL_begins_168 ml_L_359 (by decide) hb10 (by omega) (by simp only [List.length_append, List.length_cons, List.length_nil, lx_len]; omega) (by decide) hd (fun m11 c11 _ hb11 => ?_)
  refine gl_bipush (y := mL_begins L xs) (pc := 171) dL_begins_171 (by decide) ?_
  refine gl_apC (kr := kr) (sr := sr) (cap := c11) (μ0 := μ) (l := (((((((((((lx 6 hs9 ++ dgl w0) ++ [32]) ++ dgl w1) ++ [32]) ++ dgl w2) ++ [32]) ++ dgl w3) ++ [32]) ++ dgl w4) ++ [32]) ++ dgl w5)) (y := mL_begins L xs) (pc := 173) dL_begins_173 ml_L_43 (by decide) hb11 (by decide) (by simp only [List.length_append, List.length_cons, List.length_nil, lx_len]; omega) (by decide) hd (fun m12 c12 _ hb12 => ?_)
  refine gl_aload_n (y := mL_begins L xs) (pc := 176) dL_begins_176 rfl rfl ?_
  refine gl_getI (y := mL_begins L xs) (pc := 177) dL_begins_177 fl_L_351 (ow_sh (c := 276) (Or.inl rfl) 0 (by decide)) rfl (by decide) (fun _ => ?_)
  refine gl_top (b := ((w6 : Nat) : Int)) (by rw [hb12.2.1.1 _ _ (by decide)]; exact h6) (fun _ => ?_)
  refine gl_apI (kr := kr) (sr := sr) (cap := c12) (μ0 := μ) (l := ((((((((((((lx 6 hs9 ++ dgl w0) ++ [32]) ++ dgl w1) ++ [32]) ++ dgl w2) ++ [32]) ++ dgl w3) ++ [32]) ++ dgl w4) ++ [32]) ++ dgl w5) ++ [32])) (y := mL_begins L xs) (pc := 180) dL_begins_180 ml_L_359 (by decide) hb12 (by omega) (by simp only [List.length_append, List.length_cons, List.length_nil, lx_len]; omega) (by decide) hd (fun m13 c13 _ hb13 => ?_)
  refine gl_bipush (y := mL_begins L xs) (pc := 183) dL_begins_183 (by decide) ?_
  refine gl_apC (kr := kr) (sr := sr) (cap := c13) (μ0 := μ) (l := (((((((((((((lx 6 hs9 ++ dgl w0) ++ [32]) ++ dgl w1) ++ [32]) ++ dgl w2) ++ [32]) ++ dgl w3) ++ [32]) ++ dgl w4) ++ [32]) ++ dgl w5) ++ [32]) ++ dgl w6)) (y := mL_begins L xs) (pc := 185) dL_begins_185 ml_L_43 (by decide) hb13 (by decide) (by simp only [List.length_append, List.length_cons, List.length_nil, lx_len]; omega) (by decide) hd (fun m14 c14 _ hb14 => ?_)
  refine gl_astore_n (y := mL_begins L xs) (pc := 188) dL_begins_188 rfl (show (3 : Nat) < 5 by decide) ?_
  refine gl_iconst (y := mL_begins L xs) (pc := 189) dL_begins_189 ?_
  refine gl_istore (y := mL_begins L xs) (pc := 190) dL_begins_190 (show (4 : Nat) < 5 by decide) ?_
  exact K m14 c14 hb14
set_option maxRecDepth 8000 in
theorem bg_94 {w0 w1 w2 w3 w4 w5 w6 : Nat} (hh0 : μ 276 0 = (w0 : Nat)) (hh1 : μ 276 1 = (w1 : Nat)) (hh2 : μ 276 2 = (w2 : Nat)) (hh3 : μ 276 3 = (w3 : Nat)) (hh4 : μ 276 4 = (w4 : Nat)) (hh5 : μ 276 5 = (w5 : Nat)) (hh6 : μ 276 6 = (w6 : Nat)) (hw : w0 < 100 ∧ w1 < 100 ∧ w2 < 100 ∧ w3 < 100 ∧ w4 < 100 ∧ w5 < 100 ∧ w6 < 100) (hd : 9 ≤ d)
    (K : ∀ ad' E μ' cap, (∀ k, k < 293 ∨ k = 5005 ∨ 6000 ≤ k → ad' k = ad k) → sbx cy ad μ 293 E → BI (hdT w0 w1 w2 w3 w4 w5 w6) cap μ μ' → gl D cy X0 293 ad' E d (kB cap + kr) (sB cap + sr) (mL_begins L xs) PQ PX 192 [.ref 0, .ref 276, .ref 6000, .ref 5000, .int (iI ((0 : Nat) : Int))] [] μ') :
    gl D cy X0 293 ad [] d (1 + (kB 22 + kr) + 1) (22 + (sB 22 + sr) + 4) (mL_begins L xs) PQ PX 94 [.ref 0, .ref 276, .ref 6000, .null, .null] [] μ := by
  refine gl_newC (y := mL_begins L xs) (pc := 94) (q := 405) (N := 4) (ci := 1) (kc := 1 + (kB 22 + kr)) (ks := 22 + (sB 22 + sr)) (fs := [.null, .int (iI 0), .int (iI 0), .int (iI 0)]) fq405 dL_begins_94 cl_L_35 in_J4 ii_J4 iaJ4 tyJ4 tyJ4_ok rfl (by decide) (by decide) (nok_ref (by decide) (nok_ref (by decide) (nok_ref (by decide) (nok_null (nok_null nok_nil))))) nok_nil (fun a => ?_)
  refine gl_dup (y := mL_begins L xs) (pc := 97) dL_begins_97 rfl ?_
  refine gl_ldcW (y := mL_begins L xs) (pc := 98) (i := 31) (tx := "house ") dL_begins_98 rfl ?_
  obtain ⟨ad1', hA⟩ : ∃ ad1', ad1' = ad1 ad 405 a := ⟨_, rfl⟩
  have hA0 : ad1' 405 = a := by rw [hA]; exact ad1_s
  have hA1 : ∀ k, k ≠ 405 → ad1' k = ad k := fun k hk => by rw [hA]; exact ad1_n hk
  rw [← hA]
  refine gl_callGI (y := mL_begins L xs) (pc := 101) (ad2 := adt ad1' (ad1' 7031) (ad1' 7231)) (d' := 8) (kc' := 1) (ks' := 22) (kc2 := kB 22 + kr) (ks2 := sB 22 + sr) (b := 405) (b' := 405) (n := 1) (y' := wt mJ4_init_a7421 6 hs9) (as := [.ref 7031]) (as' := [.ref 6100]) (rest := [.ref 405]) (G9 := [sbN a]) (Fr := []) (R9 := Rtxt cy (adt ad1' (ad1' 7031) (ad1' 7231)) a μ 6 hs9) dL_begins_101 rfl rfl ml_L_356 (okI_t ok_J4_init_a7421) rfl rfl (by decide) (fun k hk => adt_n ⟨by omega, by omega⟩) (Or.inr (Or.inr ⟨6, hs9, rfl, by decide, Or.inl ⟨31, _, rfl, adt_0, adt_1, by decide, rfl⟩⟩)) (congrArg (fun z => [Value.ref z]) adt_0) (adt_n (by decide)) rfl (by decide) (by intro v hv; rw [List.mem_singleton.mp hv]; rfl) (by decide) (by omega) (by omega) (by omega) (fun X1 => sb_txt4 hs9_b ((adt_n (by decide)).trans hA0)) (fun r ad' μ' G' h => ?_)
  obtain ⟨rfl, h2, h3, h4, h5, h6, h7⟩ := h
  have hT : nTx (mL_begins L xs) := fun L' xs' e => by cases e
  have e6 : ∀ k, k < 293 ∨ k = 405 ∨ k = 5005 ∨ k = 6000 ∨ 7000 ≤ k → ad' k = ad1' k := fun k hk => (h2 k (by omega)).trans (adt_n ⟨by omega, by omega⟩)
  refine ⟨⟨e6 _ (by decide), Or.inl hT, fun k hk => e6 k (by omega)⟩, okr_map (P := fun k => k < 293 ∨ k = 6000) (okr_ref (by decide) (okr_ref (by decide) (okr_ref (by decide) (okr_null (okr_null okr_nil))))) (fun k hk => e6 k (by omega)), okr_map (P := fun k => k = 405) (okr_ref rfl okr_nil) (fun k hk => e6 k (by omega)), ?_⟩
  rw [List.append_nil]
  obtain ⟨ad3, hA3⟩ : ∃ ad3 : Nat → Nat, ad3 = fun k => if k = 6100 then ad 6100 else if k = 6101 then ad 6101 else ad' k := ⟨_, rfl⟩
  have hn3 : ∀ k, k ≠ 6100 → k ≠ 6101 → ad3 k = ad' k := fun k k1 k2 => by rw [hA3]; show (if k = 6100 then _ else if k = 6101 then _ else _) = _; rw [if_neg k1, if_neg k2]
  have hall : ∀ k, k < 293 ∨ k = 5005 ∨ 6000 ≤ k → ad3 k = ad k := by
    intro k hk
    by_cases k1 : k = 6100
    · rw [hA3, k1]; rfl
    by_cases k2 : k = 6101
    · rw [hA3, k2]; rfl
    exact (hn3 k k1 k2).trans ((h2 k (by omega)).trans ((adt_n ⟨k1, k2⟩).trans (hA1 k (by omega))))
  refine gl_adr (y := mL_begins L xs) (pc := 104) (ad' := ad3) (ls' := [.ref 0, .ref 276, .ref 6000, .null, .null]) (st' := [.ref 5000]) (by decide) (fun k hk => hn3 k (by omega) (by omega)) (Or.inl hT) (okr_map (P := fun k => k < 293 ∨ k = 6000) (okr_ref (by decide) (okr_ref (by decide) (okr_ref (by decide) (okr_null (okr_null okr_nil))))) (fun k hk => hn3 k (by omega) (by omega))) ?_ ?_
  · show [Value.ref _] = [Value.ref _]
    rw [hn3 5000 (by decide) (by decide), h3, e6 405 (by decide), hA0]
  have hE : sbx cy ad μ 293 G' := sbx_ad h4 ((adt_n (by decide)).trans (hA1 _ (by decide))).symm ((adt_n (by decide)).trans (hA1 _ (by decide))).symm
  exact bg_104 hh0 hh1 hh2 hh3 hh4 hh5 hh6 hw (by omega) (c0 := 22) ⟨h5, h6, h7, Or.inl rfl, by rw [lx_len]; decide⟩ (fun μ' cap hb => K ad3 G' μ' cap hall hE hb)
end Head
