/-! THE CLASS, NEW -/
theorem hiF_8 {ad : Nat → Nat} : hiF ad 62 8 = fun j => (([some 64, some 85, some 106, some 127, some 148, some 169, some 190, some 211] : List (Option Nat)).getD j none).map ad := by
  funext j
  match j with
  | 0 => rfl
  | 1 => rfl
  | 2 => rfl
  | 3 => rfl
  | 4 => rfl
  | 5 => rfl
  | 6 => rfl
  | 7 => rfl
  | j + 8 => simp [hiF, va_up, List.getD]
theorem slF_2 {ad : Nat → Nat} : (va_up (va_up (fun _ => none) 0 (some (ad 233))) 1 (some (ad 254)) : Nat → Option Nat) = fun j => (([some 233, some 254] : List (Option Nat)).getD j none).map ad := by
  funext j
  match j with
  | 0 => rfl
  | 1 => rfl
  | j + 2 => simp [va_up, List.getD]
abbrev clsF (ad : Nat → Nat) : Nat × va_E := (ad 0, .inr (14, [.ref (ad 1), .ref (ad 3), .ref (ad 4), .ref (ad 10), .ref (ad 15), .ref (ad 20), .ref (ad 41), .ref (ad 62), .ref (ad 232), .ref (ad 275), .ref (ad 5000)]))
set_option maxRecDepth 8000 in
theorem cls_world {cy : Nat → ClassId} {ad : Nat → Nat} (h55 : ad 5005 = ad 5000) : clsF ad :: ((((((((((clX8 cy ad 1 ++ clX9 ad 3 1) ++ clX6 cy ad 4) ++ clX7 cy ad 10) ++ clX7 cy ad 15) ++ chC cy ad 20 10) ++ chC cy ad 41 10) ++ hiC cy ad 62 10) ++ cl232 cy ad) ++ cl275 cy ad) ++ clSB cy ad) = wsl cy 0 ad m0 276 ++ clSB cy ad := by
  rw [wsl_wbk (by decide)]
  have e0 : wbk cy ad 0 276 = wbk cy ad 0 1 ++ wbk cy ad 1 275 := wbk_add (s := 0) (m := 1) (n := 275)
  have e1 : wbk cy ad 1 275 = wbk cy ad 1 2 ++ wbk cy ad 3 273 := wbk_add (s := 1) (m := 2) (n := 273)
  have e2 : wbk cy ad 3 273 = wbk cy ad 3 1 ++ wbk cy ad 4 272 := wbk_add (s := 3) (m := 1) (n := 272)
  have e3 : wbk cy ad 4 272 = wbk cy ad 4 6 ++ wbk cy ad 10 266 := wbk_add (s := 4) (m := 6) (n := 266)
  have e4 : wbk cy ad 10 266 = wbk cy ad 10 5 ++ wbk cy ad 15 261 := wbk_add (s := 10) (m := 5) (n := 261)
  have e5 : wbk cy ad 15 261 = wbk cy ad 15 5 ++ wbk cy ad 20 256 := wbk_add (s := 15) (m := 5) (n := 256)
  have e6 : wbk cy ad 20 256 = wbk cy ad 20 21 ++ wbk cy ad 41 235 := wbk_add (s := 20) (m := 21) (n := 235)
  have e7 : wbk cy ad 41 235 = wbk cy ad 41 21 ++ wbk cy ad 62 214 := wbk_add (s := 41) (m := 21) (n := 214)
  have e8 : wbk cy ad 62 214 = wbk cy ad 62 1 ++ wbk cy ad 63 213 := wbk_add (s := 62) (m := 1) (n := 213)
  have e9 : wbk cy ad 63 213 = wbk cy ad 63 1 ++ wbk cy ad 64 212 := wbk_add (s := 63) (m := 1) (n := 212)
  have e10 : wbk cy ad 64 212 = wbk cy ad 64 21 ++ wbk cy ad 85 191 := wbk_add (s := 64) (m := 21) (n := 191)
  have e11 : wbk cy ad 85 191 = wbk cy ad 85 21 ++ wbk cy ad 106 170 := wbk_add (s := 85) (m := 21) (n := 170)
  have e12 : wbk cy ad 106 170 = wbk cy ad 106 21 ++ wbk cy ad 127 149 := wbk_add (s := 106) (m := 21) (n := 149)
  have e13 : wbk cy ad 127 149 = wbk cy ad 127 21 ++ wbk cy ad 148 128 := wbk_add (s := 127) (m := 21) (n := 128)
  have e14 : wbk cy ad 148 128 = wbk cy ad 148 21 ++ wbk cy ad 169 107 := wbk_add (s := 148) (m := 21) (n := 107)
  have e15 : wbk cy ad 169 107 = wbk cy ad 169 21 ++ wbk cy ad 190 86 := wbk_add (s := 169) (m := 21) (n := 86)
  have e16 : wbk cy ad 190 86 = wbk cy ad 190 21 ++ wbk cy ad 211 65 := wbk_add (s := 190) (m := 21) (n := 65)
  have e17 : wbk cy ad 211 65 = wbk cy ad 211 21 ++ wbk cy ad 232 44 := wbk_add (s := 211) (m := 21) (n := 44)
  have e18 : wbk cy ad 232 44 = wbk cy ad 232 1 ++ wbk cy ad 233 43 := wbk_add (s := 232) (m := 1) (n := 43)
  have e19 : wbk cy ad 233 43 = wbk cy ad 233 21 ++ wbk cy ad 254 22 := wbk_add (s := 233) (m := 21) (n := 22)
  have e20 : wbk cy ad 254 22 = wbk cy ad 254 21 ++ wbk cy ad 275 1 := wbk_add (s := 254) (m := 21) (n := 1)
  have b0 : wbk cy ad 0 1 = [clsF ad] := by unfold clsF; rw [← h55]; rfl
  have b1 : wbk cy ad 1 2 = clX8 cy ad 1 := rfl
  have b3 : wbk cy ad 3 1 = clX9 ad 3 1 := rfl
  have b4 : wbk cy ad 4 6 = clX6 cy ad 4 := rfl
  have b10 : wbk cy ad 10 5 = clX7 cy ad 10 := rfl
  have b15 : wbk cy ad 15 5 = clX7 cy ad 15 := rfl
  have b62 : wbk cy ad 62 1 = [hiH ad 62] := rfl
  have b63 : wbk cy ad 63 1 = [(ad 63, rwq cy 8 (hiF ad 62 8))] := by rw [hiF_8]; rfl
  have b232 : wbk cy ad 232 1 = [(ad 232, rwq cy 2 (va_up (va_up (fun _ => none) 0 (some (ad 233))) 1 (some (ad 254))))] := by rw [slF_2]; rfl
  have b275 : wbk cy ad 275 1 = cl275 cy ad := rfl
  have b20 : wbk cy ad 20 21 = chC cy ad 20 10 := wbk_ch (show 20 ∈ ch_l by decide)
  have b41 : wbk cy ad 41 21 = chC cy ad 41 10 := wbk_ch (show 41 ∈ ch_l by decide)
  have b64 : wbk cy ad 64 21 = chC cy ad 64 10 := wbk_ch (show 64 ∈ ch_l by decide)
  have b85 : wbk cy ad 85 21 = chC cy ad 85 10 := wbk_ch (show 85 ∈ ch_l by decide)
  have b106 : wbk cy ad 106 21 = chC cy ad 106 10 := wbk_ch (show 106 ∈ ch_l by decide)
  have b127 : wbk cy ad 127 21 = chC cy ad 127 10 := wbk_ch (show 127 ∈ ch_l by decide)
  have b148 : wbk cy ad 148 21 = chC cy ad 148 10 := wbk_ch (show 148 ∈ ch_l by decide)
  have b169 : wbk cy ad 169 21 = chC cy ad 169 10 := wbk_ch (show 169 ∈ ch_l by decide)
  have b190 : wbk cy ad 190 21 = chC cy ad 190 10 := wbk_ch (show 190 ∈ ch_l by decide)
  have b211 : wbk cy ad 211 21 = chC cy ad 211 10 := wbk_ch (show 211 ∈ ch_l by decide)
  have b233 : wbk cy ad 233 21 = chC cy ad 233 10 := wbk_ch (show 233 ∈ ch_l by decide)
  have b254 : wbk cy ad 254 21 = chC cy ad 254 10 := wbk_ch (show 254 ∈ ch_l by decide)
  have hr : hiR cy ad 62 10 8 = chC cy ad 64 10 ++ chC cy ad 85 10 ++ chC cy ad 106 10 ++ chC cy ad 127 10 ++ chC cy ad 148 10 ++ chC cy ad 169 10 ++ chC cy ad 190 10 ++ chC cy ad 211 10 := rfl
  rw [e0, e1, e2, e3, e4, e5, e6, e7, e8, e9, e10, e11, e12, e13, e14, e15, e16, e17, e18, e19, e20]
  rw [b0, b1, b3, b4, b10, b15, b20, b41, b62, b63, b64, b85, b106, b127, b148, b169, b190, b211, b232, b233, b254, b275]
  unfold cl232 hiC
  rw [hr]
  simp only [List.append_assoc, List.cons_append, List.nil_append, List.singleton_append, Nat.reduceAdd]
def f0 : Int → Int := fst tx0
def m1 : Mem := ptn tx0 tx0.length m0
theorem first_ok3 : (rdS f0 tx0.length (st0 f0 tx0.length) m1).1.2.1 = 0 := by
  decide +kernel
theorem m0_T : wfT m0 := ⟨by decide, by decide, fun k _ => by show -128 ≤ (0 : Int) ∧ (0 : Int) < 128; decide⟩
theorem m0_rng : ∀ a i, rng (m0 a i) := fun a i => by
  unfold m0
  split <;> exact ⟨by decide, by decide⟩
theorem m0_sbx {cy : Nat → ClassId} {ad : Nat → Nat} : sbx cy ad m0 276 (clSB cy ad) :=
  Or.inr ⟨Nat.le_refl _, ad 5001, 0, rfl, fun w => absurd rfl w, ⟨by decide, by decide⟩, Or.inl rfl, fun j => by show -128 ≤ (0 : Int) ∧ (0 : Int) < 128; decide⟩
/-- behind the class's constructor -/
def Q10 : Option Value → Mem → Prop := fun r μ => r = none ∧ ∃ μ', tkS f0 tx0.length m1 μ' ∧ μ = tkE9 μ'
set_option maxRecDepth 8000 in
theorem K_X10 {D : va_G} {cy : Nat → ClassId} {X0 : Nat → Prop} {ad : Nat → Nat} {h : Nat} (had : ∀ i, i < 275 → ad (0 + 1 + i) = h + i) (h50 : ad 5000 = h + 275) (h51 : ad 5001 = h + 276) (h55 : ad 5005 = ad 5000) :
    gc D cy X0 ad 9 277 5545 mX10_init (gQ D cy X0 276 ad Q10) noX 0 [.ref 0] [] ([] ++ [(ad 0, .inr (14, [.null, .null, .null, .null, .null, .null, .null, .null, .null, .null, .null]))]) h := by
  refine N_a (V := []) (kc := 258) (ks := 4559) (h := h) (by decide) had ?_
  refine N_b (V := []) (kc := 46) (ks := 778) (h := h) (by decide) had ?_
  refine N_c (V := []) (kc := 0) (ks := 0) (h := h) (by decide) had h50 h51 ?_
  refine gc_noX (n := 276) (gc_go (n := 276) (z := 276) (μ := m0) (dv := 0) (E := clSB cy ad) (Nat.le_refl _) (by decide) m0_rng m0_sbx (List.Perm.of_eq (cls_world h55)) ?_)
  refine go_aload_n (y := mX10_init) (pc := 162) dX10_init_162 rfl rfl ?_
  refine go_getR (y := mX10_init) (pc := 163) (q := 1) dX10_init_163 fl_X10_10 (show shp 0 = _ from rfl) rfl (by decide) ?_
  refine go_ldc (y := mX10_init) (pc := 166) (i := 0) dX10_init_166 sc_0 ?_
  refine go_callV1 (y := mX10_init) (pc := 168) (y' := mX8_putAll) (z' := 276) (d' := 4) (kc' := 0) (ks' := 0) (kc2 := 0) (ks2 := 0) (rest := []) dX10_init_168 ml_X10_78 ok_X8_putAll (show shp 1 = _ from rfl) ⟨_, _, rfl⟩ (by decide) rfl (by decide) (by decide) rfl ?_
  refine t_putAll (i := 0) sc_0 m0_T rfl ?_
  refine go_aload_n (y := mX10_init) (pc := 171) dX10_init_171 rfl rfl ?_
  refine go_callV0 (y := mX10_init) (pc := 172) (y' := mX10_takeSetup) (z' := 276) (d' := 8) (kc' := 0) (ks' := 0) (kc2 := 0) (ks2 := 0) dX10_init_172 ml_X10_82 ok_X10_takeSetup (show shp 0 = _ from rfl) ⟨_, _, rfl⟩ (by decide) trivial (by decide) (Nat.le_of_ble_eq_true rfl) rfl ?_
  refine g_takeSetup (f := f0) (L := tx0.length) (tx_ptn sc_0 m0_T rfl) (fun hs μ' hμ => ?_) (fun hs => absurd first_ok3 hs)
  exact go_return (y := mX10_init) (pc := 175) dX10_init_175 rfl ⟨rfl, μ', hμ, rfl⟩
