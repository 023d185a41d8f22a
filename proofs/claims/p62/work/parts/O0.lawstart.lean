/-! THE LAW'S START: the Own is made -/
theorem own_e6 {cy : Nat → ClassId} {dv : UInt64} {ad : Nat → Nat} {μ : Mem} : (List.range' 276 17).map (fun k => (ad k, ent cy dv ad (ow 276 zO μ) k)) = clOw cy ad 276 := by
  have l : List.range' 276 17 = [276, 277, 278, 279, 280, 281, 282, 283, 284, 285, 286, 287, 288, 289, 290, 291, 292] := rfl
  have z (r j : Nat) (h : r < 17) : ow 276 zO μ (276 + r) j = 0 := ow_r h
  have e1 (k n : Nat) (hk : 276 ≤ k ∧ k < 293) (h : shp k = (1, n, [])) : ent cy dv ad (ow 276 zO μ) k = .inl (cy 0, n, .inl (fun _ => iI 0)) := by
    rw [ent_1 h]
    have e : (fun j => iI (ow 276 zO μ k j)) = fun _ => iI 0 := funext (fun j => by rw [show k = 276 + (k - 276) by omega, z _ _ (by omega)])
    rw [e]
  have e2 (k n : Nat) (hk : 276 ≤ k ∧ k < 293) (h : shp k = (2, n, [])) : ent cy dv ad (ow 276 zO μ) k = .inl (cy 1, n, .inl (fun _ => iI 0)) := by
    rw [ent_2 h]
    have e : (fun j => iI (ow 276 zO μ k j)) = fun _ => iI 0 := funext (fun j => by rw [show k = 276 + (k - 276) by omega, z _ _ (by omega)])
    rw [e]
  have e0 : ent cy dv ad (ow 276 zO μ) 276 = (owS ad 276).2 ∨ True := Or.inr trivial
  have eh : ent cy dv ad (ow 276 zO μ) 276 = .inr (15, flv ad (ow 276 zO μ) 276 0 (own_shp 276 0).2.2) := ent_0 (show shp 276 = (0, 15, (own_shp 276 0).2.2) from rfl)
  have z0 (j : Nat) : ow 276 zO μ 276 j = 0 := z 0 j (by decide)
  rw [l]
  simp only [List.map_cons, List.map_nil]
  rw [eh, e1 277 12 (by decide) rfl, e1 278 12 (by decide) rfl, e1 279 12 (by decide) rfl, e1 280 12 (by decide) rfl, e1 281 12 (by decide) rfl, e1 282 16 (by decide) rfl, e1 283 16 (by decide) rfl, e1 284 16 (by decide) rfl, e1 285 16 (by decide) rfl, e1 286 192 (by decide) rfl, e1 287 4 (by decide) rfl, e1 288 4 (by decide) rfl, e1 289 4 (by decide) rfl, e1 290 13 (by decide) rfl, e2 291 4 (by decide) rfl, e2 292 4 (by decide) rfl]
  unfold own_shp
  simp only [flv, z0]
  rfl
theorem own_w6 {cy : Nat → ClassId} {dv : UInt64} {ad : Nat → Nat} {μ : Mem} : wsl cy dv ad (ow 276 zO μ) 293 = wsl cy dv ad μ 276 ++ clOw cy ad 276 := by
  rw [← own_e6 (dv := dv) (μ := μ)]
  have h := wsl_s (cy := cy) (dv := dv) (ad := ad) (μ := ow 276 zO μ) (m := 276) (n := 17)
  rw [h, wsl_276 (ad := ad) (μ := μ) (fun k hk => rfl) (fun b j hb => ow_o (by omega))]
section Start
variable {D : va_G} {cy : Nat → ClassId} {X0 : Nat → Prop} {PQ : Array Value → State → Outcome → State → Prop} {PX : String → State → State → Prop} {L : Nat} {xs : Nat → Int32}
theorem gc_gl {n h d kc ks pc : Nat} {y : MI} {ad : Nat → Nat} {ls st : List Value} {μ : Mem} {dv : UInt64} {E F9 ws : va_W} (hn : n ≤ 400) (hR : ∀ a i, rng (μ a i)) (hE : sbx cy ad μ n E) (hp : ws.Perm (wsl cy dv ad μ n ++ (E ++ F9))) (K : gl D cy X0 n ad F9 d kc ks y PQ PX pc ls st μ) : gc D cy X0 ad d kc ks y PQ PX pc ls st ws h := by
  intro p l e R s m args below meth c mc ms hc ho H locs cells slots lsA hP hD hz9 hS hl h1 h2
  obtain ⟨c1, c2, c3, c4, c5, c6, c7, c8, c9, c10, c11, c12, c13, c14, c15, c16, c17, c18, c19⟩ := id hc
  exact gl_use K ⟨c1, c2, c3, c4, c5, c6, c7, c8, Nat.le_refl n, hn, c11, c12, c13, c14, c15, c16, c17, c18, c19⟩ ho (dv := dv) ⟨hR, E, hE, va_P_perm hp hP, va_D_perm hp hD⟩ hS hl h1 h2
set_option maxRecDepth 8000 in
theorem law_7 {kc ks h : Nat} {ad : Nat → Nat} {dv : UInt64} {μ : Mem} {E : va_W} (hR : ∀ a i, rng (μ a i)) (hE : sbx cy ad μ 276 E) (had : ∀ i, i < 17 → ad (276 + i) = h + i)
    (K : gl D cy X0 293 ad [] 11 kc ks (mL_law L xs) PQ PX 16 [.ref 6000, .ref 0, .ref 276, .null, .null, .null, .null, .null, .null] [] (ow 276 zO μ)) :
    gc D cy X0 ad 11 (16 + kc + 1) (349 + ks + 33) (mL_law L xs) PQ PX 7 [.ref 6000, .null, .null, .null, .null, .null, .null, .null, .null] [.ref 0] ((wsl cy dv ad μ 276 ++ E) ++ []) h := by
  refine gc_astore_n (y := mL_law L xs) dL_law_7 rfl (show 1 < 9 by decide) ?_
  refine gc_new (y := mL_law L xs) (N := 33) (ci := 15) (k := 276) (W0 := wsl cy dv ad μ 276 ++ E) (L := []) (kc := 16 + kc) (ks := 349 + ks) (fs := [.int (iI 0), .int (iI 0), .int (iI 0), .int (iI 0), .int (iI 0), .int (iI 0), .int (iI 0), .int (iI 0), .int (iI 0), .int (iI 0), .int (iI 0), .int (iI 0), .int (iI 0), .int (iI 0), .int (iI 0), .int (iI 0), .int (iI 0), .null, .null, .null, .null, .null, .null, .null, .null, .null, .null, .null, .null, .null, .null, .null, .null]) dL_law_8 cl_L_51 (tb_in 699 (by decide +kernel) (by decide +kernel)) (tb_in 20 (by decide +kernel) (by decide +kernel)) iaX11 tyX11 tyX11_ok rfl (by decide) (had 0 (by decide)) ?_
  refine gc_dup (y := mL_law L xs) dL_law_11 rfl ?_
  refine gc_callL (y := mL_law L xs) (d' := 1) (kc' := 16) (ks' := 349) (kc2 := kc) (ks2 := ks) (y' := mX11_init) (b := 276) (as := []) (rest := [.ref 276]) (n := 0) (fun w h' => w = (wsl cy dv ad μ 276 ++ E) ++ clOw cy ad 276 ∧ h' = h + 1 + 16) dL_law_12 rfl (Or.inr ml_L_382) ok_X11_init ⟨rfl, rfl⟩ rfl (by decide) (by simp) (Nat.le_of_ble_eq_true rfl) ⟨by decide, by omega, by omega⟩ ?_ ?_
  · exact K_Own (V := wsl cy dv ad μ 276 ++ E) (b := 276) (h := h + 1) rfl rfl (fun i hi => by rw [show 276 + 1 + i = 276 + (1 + i) by omega, had (1 + i) (by omega)]; omega)
  intro ws' h' hw
  obtain ⟨rfl, rfl⟩ := hw
  refine gc_astore_n (y := mL_law L xs) dL_law_15 rfl (show 2 < 9 by decide) ?_
  refine gc_gl (n := 293) (dv := dv) (E := E) (F9 := []) (μ := ow 276 zO μ) (by decide) (fun a i => ?_) ?_ ?_ K
  · by_cases w : 276 ≤ a ∧ a < 293
    · obtain ⟨r, rfl⟩ : ∃ r, a = 276 + r := ⟨a - 276, by omega⟩
      rw [ow_r (by omega)]
      exact rng0
    · rw [ow_o (by omega)]
      exact hR a i
  · rcases sbx_off (μ' := ow 276 zO μ) hE (fun a j ha => ow_o (by omega)) with ⟨g, -⟩ | ⟨-, g⟩
    · omega
    · exact Or.inr ⟨by decide, g⟩
  · rw [own_w6, List.append_nil, List.append_assoc, List.append_assoc]
    exact List.Perm.append_left _ List.perm_append_comm
end Start
