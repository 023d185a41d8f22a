/-! A MEMBER'S NAME -/
theorem cl_L_35 : Cond.classLink RL 35 RJ4 ∈ aw := tb_in 1442 (by decide +kernel) (by decide +kernel)
theorem in_J4 : Cond.instantiable RJ4 4 ∈ aw := tb_in 350 (by decide +kernel) (by decide +kernel)
theorem ii_J4 : Cond.initialized RJ4 ∈ aw := tb_in 13 (by decide +kernel) (by decide +kernel)
theorem i2c_nm : ∀ k : Fin 12, ((iI (97 + (k.val : Int))).toUInt32 % 65536).toInt32 = iI (97 + (k.val : Int)) := by decide +kernel
theorem chx_m : chx (fun j => sc_b "m" j) 0 = 109 := by decide +kernel
/-- the builder as it was, a mode aside -/
def eqB (μ' μ : Mem) : Prop := (∀ b j, b < 5000 → μ' b j = μ b j) ∧ μ' 5000 0 = μ 5000 0 ∧ μ' 5002 0 = μ 5002 0 ∧ (∀ j, μ' 5001 j = μ 5001 j) ∧ μ' 5003 0 = 0
theorem eqB_OL {μ' μ : Mem} {l : List Int} (h : eqB μ' μ) (g : OL l μ) : OL l μ' := ⟨h.2.1.trans g.1, fun j c hj => (h.2.2.2.1 j).trans (g.2 j c hj)⟩
def Rnm (cy : Nat → ClassId) (ad : Nat → Nat) (μ : Mem) (k : Nat) : Option Value → (Nat → Nat) → Mem → va_W → Prop := fun r ad' μ' G' => ∃ (a a1 : Nat) (f : Nat → Int32), r = some (.ref 405) ∧ (∀ j, j < 293 ∨ j = 5000 ∨ j = 5005 ∨ 6000 ≤ j → ad' j = ad j) ∧ ad' 405 = a ∧ eqB μ' μ ∧ G' = [(a1, .inl (cy 2, 2, .inl f)), (a, .inr (0, [.ref a1, .int (iI 0), .int (iI 0), .int (iI 0)]))] ∧ f 0 = iI 109 ∧ f 1 = iI (97 + (k : Int))
theorem pf3 {E G : va_W} {x y : Nat × va_E} : (E ++ (G ++ [x, y])).Perm ((x :: y :: G) ++ E) :=
  List.perm_append_comm.trans (List.Perm.append_right _ (List.perm_append_comm (l₁ := G) (l₂ := [x, y])))
theorem nr61 : (some (Value.ref 5000) : Option Value) ≠ some (.ref 6100) ∧ (some (Value.ref 5000) : Option Value) ≠ some (.ref 6101) := ⟨fun h => (by cases h), fun h => (by cases h)⟩
section Name
variable {D : va_G} {cy : Nat → ClassId} {X0 : Nat → Prop} {ad : Nat → Nat} {k : Nat} {μ : Mem}
theorem l_name (hk : k < 12) : gl D cy X0 293 ad [] 8 4 26 mL_name (cR D cy X0 293 (Rnm cy ad μ k)) noX 0 [.int (iI (k : Nat))] [] μ := by
  refine gl_newC (q := 405) (N := 4) (ci := 1) (kc := 3) (ks := 22) (fs := [.null, .int (iI 0), .int (iI 0), .int (iI 0)]) fq405 dL_name_0 cl_L_35 in_J4 ii_J4 iaJ4 tyJ4 tyJ4_ok rfl (by decide) (by decide) (nok_int nok_nil) nok_nil (fun a => ?_)
  refine gl_dup dL_name_3 rfl ?_
  refine gl_callGI (ad2 := ad1 ad 405 a) (d' := 2) (kc' := 1) (ks' := 16) (kc2 := 2) (ks2 := 6) (b := 405) (b' := 405) (n := 0) (y' := mJ4_init) (as := []) (as' := []) (rest := [.ref 405]) (G9 := [sbN a]) (Fr := []) (R9 := Rnew cy (ad1 ad 405 a) a μ) dL_name_4 rfl rfl ml_L_37 (mI0 ok_J4_init) rfl rfl (by decide) (fun _ _ => rfl) (Or.inl rfl) rfl rfl rfl (by decide) (by intro v hv; cases hv) (by decide) (by decide) (by decide) (by decide) (fun X1 => sb_new4 ad1_s) (fun r ad' μ' G' h => ?_)
  obtain ⟨a1, rfl, rfl, hm1, rfl⟩ := h
  rw [hm1]
  refine ⟨⟨ad1_n (by decide), Or.inl (fun L xs e => by cases e), fun k hk => ad1_n (by omega)⟩, rfl, okr_map (P := fun k => k = 405) (okr_ref rfl okr_nil) (fun k hk => ad1_n (by omega)), ?_⟩
  refine gl_swap (pc := 7) (ad' := ad1 (ad1 (ad1 ad 405 a) 406 a1) 5000 a) (b := a) (sa := a1) (ml := iI 0) (n := 0) (cap := 16) (f := fun _ => 0) (ls' := [.int (iI (k : Nat))]) (st' := [.ref 5000]) (F3 := fun E => E) (by decide) (fun k hk => ad1_n (by omega)) ad1_s rfl ?_ (by decide) (by decide) (fun _ => by decide) (fun E => ⟨[], pf2⟩) (fun E hE => ?_)
  · show [Value.ref _] = [Value.ref _]
    rw [ad1_s, ad1_n (show (405 : Nat) ≠ 406 by decide), ad1_s]
  have hE0 : sbx cy ad μ 293 E := sbx_ad hE ((ad1_n (by decide)).trans (ad1_n (by decide))).symm ((ad1_n (by decide)).trans (ad1_n (by decide))).symm
  obtain ⟨ad2, hA2⟩ : ∃ ad2, ad2 = ad1 (ad1 (ad1 ad 405 a) 406 a1) 5000 a := ⟨_, rfl⟩
  have hA : ∀ j, j < 293 ∨ j = 5005 ∨ 6000 ≤ j → ad2 j = ad j := fun j hj => by rw [hA2]; exact (ad1_n (by omega)).trans ((ad1_n (by omega)).trans (ad1_n (by omega)))
  obtain ⟨μ2, e2⟩ : ∃ μ2, μ2 = smb μ 0 16 (fun _ => 0) := ⟨_, rfl⟩
  have m0 : μ2 5000 0 = 0 := by rw [e2]; exact smb_0
  have m2 : μ2 5002 0 = 16 := by rw [e2]; exact smb_2
  have m3 : μ2 5003 0 = 0 := by rw [e2]; exact smb_3
  have mo : ∀ b j, b < 5000 → μ2 b j = μ b j := fun b j hb => by rw [e2]; exact smb_o hb
  rw [← e2, ← hA2]
  have hx : ∀ j, j < 1 → -128 ≤ chx (fun j => sc_b "m" j) j ∧ chx (fun j => sc_b "m" j) j < 128 := fun j hj => by
    rw [show j = 0 by omega, chx_m]; decide
  have hOL : OL [] μ2 := ⟨m0, fun j c hj => by cases hj⟩
  have hch : chk (μ2 5002 0) (((([] : List Int).length : Nat) : Int) + (1 : Nat)) := Or.inr ⟨m2, by decide⟩
  obtain ⟨g1, g2, g3⟩ := aps_OL (xs := fun j => sc_b "m" j) hOL (by rw [m0, m2]; decide) m3 hch (by decide) (by rw [m2]; decide)
  refine gl_ldc (i := 33) (tx := "m") dL_name_7 rfl ?_
  refine gl_callOt (z' := 276) (d' := 5) (kc' := 0) (ks' := 0) (kc2 := 2) (ks2 := 6) (n := 1) (ta := ad2 7033) (tb := ad2 7233) (L := 1) (xs := fun j => sc_b "m" j) (y' := wt mJ4_append_15ec4 1 (fun j => sc_b "m" j)) (as := [.ref 7033]) (as' := [.ref 6100]) (rest := []) dL_name_9 rfl ml_L_40 (okW_t ok_J4_append_15ec4) se_J4_append_15ec4 rfl (by decide) ⟨by decide, Or.inl ⟨33, _, rfl, rfl, rfl, by decide, rfl⟩⟩ (congrArg (fun z => [Value.ref z]) adt_0) rfl (Nat.le_of_ble_eq_true rfl) (by intro v hv; rw [List.mem_singleton.mp hv]; rfl) (by decide) (by decide) (by decide) (by decide) (by decide) (tt_append (kc := 0) (ks := 0) m3 (by rw [m0, m2]; decide) (by rw [m0]; exact hch) (by rw [m0]; decide) (by rw [m0, m2]; decide) hx (by rw [m0, m2]; decide) (by rw [m0, m2]; decide) ?_)
  refine ⟨nr61, ?_⟩
  obtain ⟨μ3, e3⟩ : ∃ μ3, μ3 = aps μ2 1 (fun j => sc_b "m" j) := ⟨_, rfl⟩
  rw [← e3] at g1 g2 g3 ⊢
  have l1 : lx 1 (fun j => sc_b "m" j) = [109] := congrArg (fun z => [z]) chx_m
  rw [l1] at g1
  have n0 : μ3 5000 0 = 1 := g1.1
  have n2 : μ3 5002 0 = 16 := by rw [g3, m2]; decide
  refine gl_bipush dL_name_12 (by decide) ?_
  refine gl_iload_n dL_name_14 rfl rfl ?_
  refine gl_iadd dL_name_15 ?_
  refine gl_i2c dL_name_16 (i2c_nm ⟨k, hk⟩) ?_
  have hch2 : chk (μ3 5002 0) (((([] ++ [109] : List Int).length : Nat) : Int) + 1) := Or.inr ⟨n2, by decide⟩
  obtain ⟨p1, p2, p3⟩ := apm_OL (c := 97 + (k : Int)) g1 (by rw [n0, n2]; decide) g2.2 hch2 (by decide)
  refine gl_callB (z' := 276) (d' := 5) (kc' := 0) (ks' := 0) (kc2 := 2) (ks2 := 6) (y' := mJ4_append_cf468) (as := [.int (iI (97 + (k : Int)))]) (rest := []) dL_name_17 rfl ml_L_43 ok_J4_append_cf468 ⟨_, _, rfl⟩ (by decide) rfl (Nat.le_of_ble_eq_true rfl) (by intro v hv; rw [List.mem_singleton.mp hv]; rfl) (by decide) (by decide) (by decide) (by decide) (by decide) (sb_apC (kc := 0) (ks := 0) ⟨by omega, by omega⟩ g2.2 (by rw [n0, n2]; decide) (by rw [n0]; exact hch2) (by rw [n0]; decide) (by rw [n0, n2]; decide) (by rw [n0, n2]; decide) ?_)
  obtain ⟨μ4, e4⟩ : ∃ μ4, μ4 = apm μ3 (97 + (k : Int)) := ⟨_, rfl⟩
  rw [← e4] at p1 p2 p3 ⊢
  have q0 : μ4 5000 0 = (2 : Nat) := p1.1
  have q2 : μ4 5002 0 = 16 := by rw [p3, n2]; decide
  have q10 : μ4 5001 0 = 109 := p1.2 0 109 rfl
  have q11 : μ4 5001 1 = 97 + (k : Int) := p1.2 1 _ rfl
  refine gl_callGV (d' := 5) (kc' := 2) (ks' := 6) (kc2 := 0) (ks2 := 0) (n := 0) (y' := mJ4_toString_0e30d) (as := []) (rest := []) (G9 := []) (Fr := E) (R9 := Rts cy ad2 μ4 2) dL_name_20 rfl rfl ml_L_46 ⟨ok_J4_toString_0e30d.1, ok_J4_toString_0e30d.2.1⟩ se_J4_toString_0e30d (by decide) rfl (by decide) (by intro v hv; cases hv) (by decide) (by decide) (by decide) (by decide) (fun X1 => sb_toString q0 (by rw [q2]; decide) (by decide)) (fun r ad' μ' G' h => ?_)
  obtain ⟨b, b1, f, rfl, h2, h3, h4, h5, rfl, hf⟩ := h
  refine ⟨⟨h2 _ (by decide), Or.inl (fun L xs e => by cases e), fun k hk => h2 k (by omega)⟩, rfl, rfl, ?_⟩
  rcases hE0 with ⟨g, -⟩ | ⟨-, sa, ml, e, z1, z2, z3, z4⟩
  · exact absurd g (by decide)
  subst e
  refine gl_swap (pc := 23) (ad' := ad1 ad' 5000 (ad 5000)) (b := ad 5000) (sa := sa) (ml := ml) (n := μ 5000 0) (cap := μ 5002 0) (f := fun j => μ 5001 j) (ls' := [.int (iI (k : Nat))]) (st' := [.ref 405]) (F3 := fun _ => [(b1, .inl (cy 2, 2, .inl f)), (b, .inr (0, [.ref b1, .int (iI 0), .int (iI 0), .int (iI 0)]))]) (by decide) (fun k hk => ad1_n (by omega)) ad1_s rfl (okr_map (P := fun k => k = 405) (okr_ref rfl okr_nil) (fun k hk => ad1_n (by omega))) z2 z3 z4 (fun E => ⟨E, pf3⟩) (fun E hE => ?_)
  refine gl_areturnR dL_name_23 rfl (Or.inl ⟨_, rfl⟩) ⟨b, b1, f, rfl, fun j hj => ?_, (ad1_n (by decide)).trans h3, ⟨fun c j hc => ?_, smb_0, smb_2, fun j => smb_1, smb_3⟩, rfl, by rw [hf 0 (by decide), q10], by rw [hf 1 (by decide), q11]⟩
  · by_cases e : j = 5000
    · rw [e]; exact ad1_s
    · exact (ad1_n e).trans ((h2 j (by omega)).trans (hA j (by omega)))
  · rw [smb_o hc, h4 c j (by omega), p2.1 c j hc, g2.1 c j hc, mo c j hc]
end Name
