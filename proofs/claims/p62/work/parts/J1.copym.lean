/-! A COPY OF AN OWN, as a method -/
def zO : Mem := fun _ _ => 0
theorem own_e {cy : Nat → ClassId} {dv : UInt64} {ad : Nat → Nat} {μ : Mem} : (List.range' 293 17).map (fun k => (ad k, ent cy dv ad (ow 293 zO μ) k)) = clOw cy ad 293 := by
  have l : List.range' 293 17 = [293, 294, 295, 296, 297, 298, 299, 300, 301, 302, 303, 304, 305, 306, 307, 308, 309] := rfl
  have z (r j : Nat) (h : r < 17) : ow 293 zO μ (293 + r) j = 0 := ow_r h
  have e1 (k n : Nat) (hk : 293 ≤ k ∧ k < 310) (h : shp k = (1, n, [])) : ent cy dv ad (ow 293 zO μ) k = .inl (cy 0, n, .inl (fun _ => iI 0)) := by
    rw [ent_1 h]
    have e : (fun j => iI (ow 293 zO μ k j)) = fun _ => iI 0 := funext (fun j => by rw [show k = 293 + (k - 293) by omega, z _ _ (by omega)])
    rw [e]
  have e2 (k n : Nat) (hk : 293 ≤ k ∧ k < 310) (h : shp k = (2, n, [])) : ent cy dv ad (ow 293 zO μ) k = .inl (cy 1, n, .inl (fun _ => iI 0)) := by
    rw [ent_2 h]
    have e : (fun j => iI (ow 293 zO μ k j)) = fun _ => iI 0 := funext (fun j => by rw [show k = 293 + (k - 293) by omega, z _ _ (by omega)])
    rw [e]
  have e0 : ent cy dv ad (ow 293 zO μ) 293 = (owS ad 293).2 ∨ True := Or.inr trivial
  have eh : ent cy dv ad (ow 293 zO μ) 293 = .inr (15, flv ad (ow 293 zO μ) 293 0 (own_shp 293 0).2.2) := ent_0 (show shp 293 = (0, 15, (own_shp 293 0).2.2) from rfl)
  have z0 (j : Nat) : ow 293 zO μ 293 j = 0 := z 0 j (by decide)
  rw [l]
  simp only [List.map_cons, List.map_nil]
  rw [eh, e1 294 12 (by decide) rfl, e1 295 12 (by decide) rfl, e1 296 12 (by decide) rfl, e1 297 12 (by decide) rfl, e1 298 12 (by decide) rfl, e1 299 16 (by decide) rfl, e1 300 16 (by decide) rfl, e1 301 16 (by decide) rfl, e1 302 16 (by decide) rfl, e1 303 192 (by decide) rfl, e1 304 4 (by decide) rfl, e1 305 4 (by decide) rfl, e1 306 4 (by decide) rfl, e1 307 13 (by decide) rfl, e2 308 4 (by decide) rfl, e2 309 4 (by decide) rfl]
  unfold own_shp
  simp only [flv, z0]
  rfl
theorem wsl_310 {cy : Nat → ClassId} {dv : UInt64} {ad : Nat → Nat} {μ : Mem} : wsl cy dv ad (ow 293 zO μ) 310 = wsl cy dv ad μ 293 ++ clOw cy ad 293 := by
  have e : wsl cy dv ad μ 293 = wsl cy dv ad (ow 293 zO μ) 293 := wsl_off (fun a j ha => (ow_o (by omega)).symm)
  rw [e, ← own_e (cy := cy) (dv := dv) (ad := ad) (μ := μ)]
  unfold wsl
  have e3 : List.range' 0 310 = List.range' 0 293 ++ List.range' 293 17 := (List.range'_append_1 (s := 0) (m := 293) (n := 17)).symm
  rw [List.range_eq_range', List.range_eq_range', ← List.map_append, e3]
/-- what a copy leaves -/
def copQ (D : va_G) (cy : Nat → ClassId) (X0 : Nat → Prop) (ad : Nat → Nat) (μ : Mem) : Array Value → State → Outcome → State → Prop := fun _ st oc t =>
  (∃ (ad' : Nat → Nat) (ω' : Mem) (dv' : UInt64), (∀ k, k < 293 ∨ 400 ≤ k → ad' k = ad k) ∧ oc = .returned (some (.ref (ad' 293))) ∧ (∀ r j, cpO 12 16 192 4 13 r j → ω' r j = srcO μ r j) ∧ wd D cy 310 ad' dv' (ow 293 ω' μ) X0 t.heap) ∧ va_F X0 st t
/-- what a copy finds -/
def copP (D : va_G) (cy : Nat → ClassId) (X0 : Nat → Prop) (ad : Nat → Nat) (dv : UInt64) (μ : Mem) : Array Value → State → Prop := fun v U =>
  gP D cy X0 293 ad dv μ [.ref 276] v U ∧ ao U
theorem copP_blind {D : va_G} {cy : Nat → ClassId} {X0 : Nat → Prop} {ad : Nat → Nat} {dv : UInt64} {μ : Mem} : FrameBlind (copP D cy X0 ad dv μ) := by
  intro a U g mk h
  exact ⟨gP_blind a U g mk h.1, ao_moved (u := U) (U := U.calling g mk a) (Vm.Alike.refl U.vm) h.2⟩
set_option maxRecDepth 8000 in
theorem cp_gc {D : va_G} {cy : Nat → ClassId} {X0 : Nat → Prop} {ad : Nat → Nat} {dv : UInt64} {μ : Mem} {E : va_W} {h : Nat} {Q : Option Value → Mem → Prop} (had : ∀ i, i < 17 → ad (293 + i) = h + i) (hR : ∀ a i, rng (μ a i)) (hE : sbx cy ad μ 293 E)
    (K : ∀ ω', (∀ r j, cpO 12 16 192 4 13 r j → ω' r j = srcO μ r j) → Q (some (.ref 293)) (ow 293 ω' μ)) :
    gc D cy X0 ad 3 17 382 mX11_copy (gQ D cy X0 310 ad Q) (gX D cy X0 310 ad (fun _ _ => False)) 0 [.ref 276, .null, .null] [] ((wsl cy dv ad μ 293 ++ E) ++ []) h := by
  refine gc_new (N := 33) (ci := 15) (k := 293) (W0 := wsl cy dv ad μ 293 ++ E) (L := []) (kc := 16) (ks := 349) (fs := [.int (iI 0), .int (iI 0), .int (iI 0), .int (iI 0), .int (iI 0), .int (iI 0), .int (iI 0), .int (iI 0), .int (iI 0), .int (iI 0), .int (iI 0), .int (iI 0), .int (iI 0), .int (iI 0), .int (iI 0), .int (iI 0), .int (iI 0), .null, .null, .null, .null, .null, .null, .null, .null, .null, .null, .null, .null, .null, .null, .null, .null]) dX11_copy_0 (tb_in 840 (by decide +kernel) (by decide +kernel)) (tb_in 699 (by decide +kernel) (by decide +kernel)) (tb_in 20 (by decide +kernel) (by decide +kernel)) iaX11 tyX11 tyX11_ok rfl (by decide) (had 0 (by decide)) ?_
  refine gc_dup dX11_copy_3 rfl ?_
  refine gc_call (d' := 1) (kc' := 16) (ks' := 349) (kc2 := 0) (ks2 := 0) (y' := mX11_init) (b := 293) (as := []) (rest := [.ref 293]) (n := 0) (fun w h' => w = (wsl cy dv ad μ 293 ++ E) ++ clOw cy ad 293 ∧ h' = h + 1 + 16) dX11_copy_4 rfl (Or.inl ml_X11_59) ok_X11_init ⟨rfl, rfl⟩ rfl (by decide) (by simp) (Nat.le_of_ble_eq_true rfl) (by decide) ?_ ?_
  · exact K_Own (V := wsl cy dv ad μ 293 ++ E) (b := 293) (h := h + 1) rfl rfl (fun i hi => by rw [show 293 + 1 + i = 293 + (1 + i) by omega, had (1 + i) (by omega)]; omega)
  rintro _ _ ⟨rfl, rfl⟩
  refine gc_astore_n (i := 1) dX11_copy_7 rfl (by decide) ?_
  refine gc_go (n := 310) (z := 310) (μ := ow 293 zO μ) (dv := dv) (E := E) (Nat.le_refl _) (by decide) ?_ ?_ ?_ ?_
  · intro a i
    unfold ow
    split
    · exact rng0
    · exact hR a i
  · rcases hE with ⟨g, -⟩ | ⟨-, sa, ml, e, a1, a2, a3, a4⟩
    · exact absurd g (by decide)
    · have e1 (b j : Nat) (hb : 5000 ≤ b) : ow 293 zO μ b j = μ b j := ow_o (by omega)
      refine Or.inr ⟨by decide, sa, ml, ?_, ?_, ?_, ?_, fun j => ?_⟩
      · rw [e1 5000 0 (by decide), e1 5002 0 (by decide), show (fun j => iI (ow 293 zO μ 5001 j)) = fun j => iI (μ 5001 j) from funext (fun j => by rw [e1 5001 j (by decide)])]
        exact e
      · rw [e1 5003 0 (by decide)]; exact a1
      · rw [e1 5000 0 (by decide), e1 5002 0 (by decide)]; exact a2
      · rw [e1 5002 0 (by decide)]; exact a3
      · rw [e1 5001 j (by decide)]; exact a4 j
  · rw [wsl_310, List.append_assoc, List.append_assoc]
    exact List.Perm.append_left _ List.perm_append_comm
  · exact o_copy (w := 293) rfl (Q := Q) (X := fun _ _ => False) (ω := zO) (ν := μ) K
