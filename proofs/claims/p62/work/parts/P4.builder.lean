/-! A BUILDER made, and its text -/
theorem mI0 {y : MI} {n : Nat} {P : Prop} (h : mok y n ∧ P) : mok0 y n ∧ P := ⟨⟨h.1.1, h.1.2.1, h.1.2.2.1, h.1.2.2.2.1, h.1.2.2.2.2.1, h.1.2.2.2.2.2.1⟩, h.2⟩
theorem fF_J0_9 : flkF RJ0 9 0 0 (.array .byte) := ⟨RJ0, TJ0, 4, tyJ0, rfl, by decide, fk_J0_9, iaJ0, tyJ0_ok, nmJ0, rfl, rfl, rfl, by decide +kernel⟩
theorem fF_J0_15 : flkF RJ0 15 0 1 .byte := ⟨RJ0, TJ0, 4, tyJ0, rfl, by decide, fk_J0_15, iaJ0, tyJ0_ok, nmJ0, rfl, rfl, rfl, by decide +kernel⟩
abbrev sbN (a : Nat) : Nat × va_E := (a, .inr (1, [.null, .int (iI 0), .int (iI 0), .int (iI 0)]))
abbrev stN (a : Nat) : Nat × va_E := (a, .inr (0, [.null, .int (iI 0), .int (iI 0), .int (iI 0)]))
/-- a new builder's end -/
def Rnew (cy : Nat → ClassId) (ad : Nat → Nat) (a : Nat) (μ : Mem) : Option Value → (Nat → Nat) → Mem → va_W → Prop := fun r ad' μ' G' => ∃ a1, r = none ∧ ad' = ad1 ad 406 a1 ∧ μ' = μ ∧ G' = [(a1, .inl (cy 2, 16, .inl (fun _ => iI 0))), (a, .inr (1, [.ref a1, .int (iI 0), .int (iI 0), .int (iI 0)]))]
theorem fq405 : fq 405 := by unfold fq; decide
theorem fq406 : fq 406 := by unfold fq; decide
theorem ml_J5_3 : Cond.methodLink RJ5 3 Lib.objectInit ∈ aw := tb_in 357 (by decide +kernel) (by decide +kernel)
theorem ic_J5_38 : Cond.constant RJ5 38 2147483631 ∈ aw := tb_in 1451 (by decide +kernel) (by decide +kernel)
theorem sl_app : Cond.selects RJ4 yJ5_append_cf1ce yJ4_append_cf1ce ∈ aw := tb_in 1457 (by decide +kernel) (by decide +kernel)
section Build
variable {D : va_G} {cy : Nat → ClassId} {X0 : Nat → Prop} {ad : Nat → Nat} {a : Nat} {μ : Mem}
theorem sb_new5 (ha : ad 405 = a) : gl D cy X0 293 ad [sbN a] 1 1 16 mJ5_init (cR D cy X0 293 (Rnew cy ad a μ)) noX 0 [.ref 405, .int (iI 16)] [] μ := by
  refine gl_aload_n dJ5_init_0 rfl rfl ?_
  refine gl_obj dJ5_init_1 (tb_in 357 (by decide +kernel) (by decide +kernel)) (by decide) (by decide) ?_
  refine gl_compact dJ5_init_4 fk_J5_18 ?_
  refine gl_if_eq (tgt := 25) dJ5_init_7 rfl (by decide) (fun h => absurd h (by decide)) (fun _ => ?_)
  refine gl_aload_n dJ5_init_10 rfl rfl ?_
  refine gl_iload_n dJ5_init_11 rfl rfl ?_
  refine gl_newBy (q := 406) (N := 16) (kc := 0) (ks := 0) fq406 dJ5_init_12 rfl (by decide) (by decide) (nok_ref (by decide) (nok_int nok_nil)) (nok_ref (by decide) nok_nil) (fun a1 => ?_)
  refine gl_putN 1 (v' := .ref a1) dJ5_init_14 fb_J5_15 ((ad1_n (by decide)).trans ha) (congrArg Value.ref ad1_s) rfl rfl rfl (show (0 : Nat) < 4 by decide) ?_
  refine gl_aload_n dJ5_init_17 rfl rfl ?_
  refine gl_iconst dJ5_init_18 ?_
  refine gl_putN 1 (v' := .int (iI 0)) dJ5_init_19 fb_J5_22 ((ad1_n (by decide)).trans ha) rfl rfl (by decide) (by decide) (show (1 : Nat) < 4 by decide) ?_
  refine gl_goto (tgt := 38) dJ5_init_22 rfl ?_
  exact gl_returnR dJ5_init_38 rfl ⟨a1, rfl, rfl, rfl, rfl⟩
theorem sb_new4 (ha : ad 405 = a) : gl D cy X0 293 ad [sbN a] 2 1 16 mJ4_init (cR D cy X0 293 (Rnew cy ad a μ)) noX 0 [.ref 405] [] μ := by
  refine gl_aload_n dJ4_init_0 rfl rfl ?_
  refine gl_bipush dJ4_init_1 (by decide) ?_
  refine gl_null 0 ?_
  refine gl_callGI (ad2 := ad) (d' := 1) (kc' := 1) (ks' := 16) (kc2 := 0) (ks2 := 0) (b := 405) (b' := 405) (n := 1) (y' := mJ5_init) (as := [.int (iI 16)]) (as' := [.int (iI 16)]) (rest := []) (G9 := [sbN a]) (Fr := []) (R9 := Rnew cy ad a μ) dJ4_init_3 rfl rfl ml_J4_1 (mI0 ok_J5_init) rfl rfl (by decide) (fun _ _ => rfl) (Or.inl rfl) rfl rfl rfl (by decide) (by simp [Value.category]) (by decide) (by decide) (by decide) (by decide) (fun X1 => sb_new5 ha) (fun r ad' μ' G' h => ?_)
  obtain ⟨a1, rfl, rfl, rfl, rfl⟩ := h
  refine ⟨⟨ad1_n (by decide), Or.inl (fun L xs e => by cases e), fun k hk => ad1_n (by omega)⟩, rfl, rfl, ?_⟩
  exact gl_returnR dJ4_init_6 rfl ⟨a1, rfl, rfl, rfl, rfl⟩
theorem tt_bridge {Q : Option Value → Mem → Prop} {X : String → Mem → Prop} {L : Nat} {xs : Nat → Int32} {kc ks : Nat} (h0 : μ 5003 0 = 0) (hf : 0 ≤ μ 5000 0 ∧ μ 5000 0 ≤ μ 5002 0) (hch : chk (μ 5002 0) (μ 5000 0 + L)) (hn : μ 5000 0 + L ≤ 382) (hg : μ 5000 0 + L ≤ 2 * μ 5002 0 + 2) (hx : ∀ j, j < L → -128 ≤ chx xs j ∧ chx xs j < 128) (hk : kB (μ 5002 0) ≤ kc + kB (cpf (μ 5002 0) (μ 5000 0 + L))) (hs : sB (μ 5002 0) ≤ ks + sB (cpf (μ 5002 0) (μ 5000 0 + L))) (K : Q (some (.ref 5000)) (aps μ L xs)) : mt 276 6 kc ks (wt mJ4_append_cf1ce L xs) [.ref 5000, .ref 6100] Q X μ := by
  show go 276 6 kc ks (wt mJ4_append_cf1ce L xs) Q X 0 [.ref 5000, .ref 6100] [] _
  refine go_aload_n (y := wt mJ4_append_cf1ce L xs) (pc := 0) dJ4_append_cf1ce_0 rfl rfl ?_
  refine go_aload_n (y := wt mJ4_append_cf1ce L xs) (pc := 1) dJ4_append_cf1ce_1 rfl rfl ?_
  refine go_callOs (y := wt mJ4_append_cf1ce L xs) (pc := 2) (y' := wt mJ4_append_15ec4 L xs) (as := [.ref 6100]) (kc2 := 0) (ks2 := 0) dJ4_append_cf1ce_2 rfl ml_J4_23 rfl (okW_t ok_J4_append_15ec4) se_J4_append_15ec4 (by decide) rfl (Nat.le_of_ble_eq_true rfl) (by intro v hv; rw [List.mem_singleton.mp hv]; rfl) (Nat.le_of_ble_eq_true rfl) (Nat.le_refl _) (by decide) (Nat.le_refl _) (Nat.le_refl _) rfl (tt_append (kc := kc) (ks := ks) h0 hf hch hn hg hx hk hs ?_)
  exact go_areturn (y := wt mJ4_append_cf1ce L xs) (pc := 5) dJ4_append_cf1ce_5 rfl (Or.inl ⟨_, rfl⟩) K
theorem pf2 {E : va_W} {x y : Nat × va_E} : (E ++ [x, y]).Perm ((y :: x :: E) ++ []) := by
  rw [List.append_nil]
  exact List.perm_append_comm.trans (List.Perm.swap _ _ _)
/-- the end of a new builder with a text: it is the one that counts, the other's cells lie aside -/
def Rtxt (cy : Nat → ClassId) (ad : Nat → Nat) (a : Nat) (μ : Mem) (L : Nat) (xs : Nat → Int32) : Option Value → (Nat → Nat) → Mem → va_W → Prop := fun r ad' μ' G' =>
  r = none ∧ (∀ k, k < 293 ∨ k = 405 ∨ k = 5005 ∨ 6000 ≤ k → ad' k = ad k) ∧ ad' 5000 = a ∧ sbx cy ad μ 293 G' ∧ OL (lx L xs) μ' ∧ eqO μ' μ ∧ μ' 5002 0 = 22
theorem sb_txt5 {xs : Nat → Int32} (hx : ∀ j, j < 6 → -128 ≤ chx xs j ∧ chx xs j < 128) (ha : ad 405 = a) : gl D cy X0 293 ad [sbN a] 7 1 22 (wt mJ5_init_a7421 6 xs) (cR D cy X0 293 (Rtxt cy ad a μ 6 xs)) noX 0 [.ref 405, .ref 6100, .null, .null, .null] [] μ := by
  refine gl_aload_n (y := wt mJ5_init_a7421 6 xs) (pc := 0) dJ5_init_a7421_0 rfl rfl ?_
  refine gl_obj (y := wt mJ5_init_a7421 6 xs) (pc := 1) dJ5_init_a7421_1 ml_J5_3 (by decide) (by decide) ?_
  refine gl_aload_n (y := wt mJ5_init_a7421 6 xs) (pc := 4) dJ5_init_a7421_4 rfl rfl ?_
  refine gl_callT (y := wt mJ5_init_a7421 6 xs) (pc := 5) (y' := wt mJ0_length_8abf5 6 xs) (as := []) (rest := []) (z' := 276) (d' := 1) (kc' := 0) (ks' := 0) (kc2 := 1) (ks2 := 22) dJ5_init_a7421_5 rfl ml_J5_32 (okV_t ok_J0_length_8abf5) rfl rfl rfl rfl (Nat.le_of_ble_eq_true rfl) (by intro v hv; cases hv) (by decide) (by decide) (by decide) (by decide) (by decide) (tt_length ?_)
  refine gl_istore_n (y := wt mJ5_init_a7421 6 xs) (pc := 8) dJ5_init_a7421_8 rfl (show (2 : Nat) < 5 by decide) ?_
  refine gl_iload_n (y := wt mJ5_init_a7421 6 xs) (pc := 9) dJ5_init_a7421_9 rfl rfl ?_
  refine gl_ldcI (y := wt mJ5_init_a7421 6 xs) (pc := 10) (v := 2147483631) (w := 2147483631) dJ5_init_a7421_10 ic_J5_38 (by decide) ?_
  refine gl_icmp_ge (y := wt mJ5_init_a7421 6 xs) (pc := 12) (tgt := 22) dJ5_init_a7421_12 (by decide) (by decide) (by decide) (fun h => absurd h (by decide)) (fun _ => ?_)
  refine gl_iload_n (y := wt mJ5_init_a7421 6 xs) (pc := 15) dJ5_init_a7421_15 rfl rfl ?_
  refine gl_bipush (y := wt mJ5_init_a7421 6 xs) (pc := 16) dJ5_init_a7421_16 (by decide) ?_
  refine gl_iadd (y := wt mJ5_init_a7421 6 xs) (pc := 18) dJ5_init_a7421_18 ?_
  refine gl_goto (y := wt mJ5_init_a7421 6 xs) (pc := 19) (tgt := 24) dJ5_init_a7421_19 (by decide) ?_
  refine gl_istore_n (y := wt mJ5_init_a7421 6 xs) (pc := 24) dJ5_init_a7421_24 rfl (show (3 : Nat) < 5 by decide) ?_
  refine gl_aload_n (y := wt mJ5_init_a7421 6 xs) (pc := 25) dJ5_init_a7421_25 rfl rfl ?_
  refine gl_callT (y := wt mJ5_init_a7421 6 xs) (pc := 26) (y' := wt mJ0_coder_7d493 6 xs) (as := []) (rest := []) (z' := 276) (d' := 0) (kc' := 0) (ks' := 0) (kc2 := 1) (ks2 := 22) dJ5_init_a7421_26 rfl ml_J5_40 (okV_t ok_J0_coder_7d493) rfl rfl rfl rfl (Nat.le_of_ble_eq_true rfl) (by intro v hv; cases hv) (by decide) (by decide) (by decide) (by decide) (by decide) (tt_coder ?_)
  refine gl_istore (y := wt mJ5_init_a7421 6 xs) (pc := 29) dJ5_init_a7421_29 (show (4 : Nat) < 5 by decide) ?_
  refine gl_aload_n (y := wt mJ5_init_a7421 6 xs) (pc := 31) dJ5_init_a7421_31 rfl rfl ?_
  refine gl_iload (y := wt mJ5_init_a7421 6 xs) (pc := 32) (v := 0) dJ5_init_a7421_32 rfl ?_
  refine gl_putN 0 (y := wt mJ5_init_a7421 6 xs) (pc := 34) (v' := .int (iI 0)) dJ5_init_a7421_34 fb_J5_22 ha rfl rfl (by decide) (by decide) (show (1 : Nat) < 4 by decide) ?_
  refine gl_aload_n (y := wt mJ5_init_a7421 6 xs) (pc := 37) dJ5_init_a7421_37 rfl rfl ?_
  refine gl_iload (y := wt mJ5_init_a7421 6 xs) (pc := 38) (v := 0) dJ5_init_a7421_38 rfl ?_
  refine gl_if_ne (y := wt mJ5_init_a7421 6 xs) (pc := 40) (tgt := 49) dJ5_init_a7421_40 (by decide) (by decide) (fun h => absurd rfl h) (fun _ => ?_)
  refine gl_iload_n (y := wt mJ5_init_a7421 6 xs) (pc := 43) dJ5_init_a7421_43 rfl rfl ?_
  refine gl_newBy (y := wt mJ5_init_a7421 6 xs) (pc := 44) (q := 406) (N := 22) (kc := 0) (ks := 0) fq406 dJ5_init_a7421_44 rfl (by decide) (by decide) (nok_ref (by decide) (nok_ref (by decide) (nok_int (nok_int (nok_int nok_nil))))) (nok_ref (by decide) nok_nil) (fun a1 => ?_)
  refine gl_goto (y := wt mJ5_init_a7421 6 xs) (pc := 46) (tgt := 53) dJ5_init_a7421_46 (by decide) ?_
  refine gl_putN 1 (y := wt mJ5_init_a7421 6 xs) (pc := 53) (v' := .ref a1) dJ5_init_a7421_53 fb_J5_15 ((ad1_n (by decide)).trans ha) (congrArg Value.ref ad1_s) rfl rfl rfl (show (0 : Nat) < 4 by decide) ?_
  refine gl_null 2 (gl_null 3 (gl_null 4 ?_))
  refine gl_swap (y := wt mJ5_init_a7421 6 xs) (pc := 56) (ad' := ad1 (ad1 ad 406 a1) 5000 a) (b := a) (sa := a1) (ml := iI 0) (n := 0) (cap := 22) (f := fun _ => 0) (ls' := [.ref 5000, .ref 6100, .null, .null, .null]) (st' := []) (F3 := fun E => E) (by decide) (fun k hk => ad1_n (by omega)) ad1_s ?_ rfl (by decide) (by decide) (fun _ => by decide) (fun E => ⟨[], pf2⟩) (fun E hE => ?_)
  · show [Value.ref _, Value.ref _, _, _, _] = [Value.ref _, Value.ref _, _, _, _]
    rw [ad1_s, ad1_n (show (6100 : Nat) ≠ 5000 by decide), ad1_n (show (405 : Nat) ≠ 406 by decide), ha]
    rfl
  have hE0 : sbx cy ad μ 293 E := sbx_ad hE (ad1_n (by decide)).symm (ad1_n (by decide)).symm
  obtain ⟨μ2, e2⟩ : ∃ μ2, μ2 = smb μ 0 22 (fun _ => 0) := ⟨_, rfl⟩
  have m0 : μ2 5000 0 = 0 := by rw [e2]; exact smb_0
  have m2 : μ2 5002 0 = 22 := by rw [e2]; exact smb_2
  have m3 : μ2 5003 0 = 0 := by rw [e2]; exact smb_3
  have mo : ∀ b j, b < 5000 → μ2 b j = μ b j := fun b j hb => by rw [e2]; exact smb_o hb
  rw [← e2]
  have hOL : OL [] μ2 := ⟨m0, fun j c hj => by cases hj⟩
  have hch : chk (μ2 5002 0) (((([] : List Int).length : Nat) : Int) + (6 : Nat)) := Or.inl (by rw [m2]; exact Or.inl rfl)
  obtain ⟨g1, g2, g3⟩ := aps_OL (xs := xs) hOL (by rw [m0, m2]; decide) m3 hch (by decide) (by rw [m2]; decide)
  refine gl_aload_n (y := wt mJ5_init_a7421 6 xs) (pc := 56) dJ5_init_a7421_56 rfl rfl ?_
  refine gl_aload_n (y := wt mJ5_init_a7421 6 xs) (pc := 57) dJ5_init_a7421_57 rfl rfl ?_
  refine gl_callU (y := wt mJ5_init_a7421 6 xs) (pc := 58) (x := yJ5_append_cf1ce) (y' := wt mJ4_append_cf1ce 6 xs) (as := [.ref 6100]) (rest := []) (z' := 276) (d' := 6) (kc' := 0) (ks' := 0) (kc2 := 0) (ks2 := 0) dJ5_init_a7421_58 rfl ml_J5_43 (okI_t ok_J4_append_cf1ce) rfl sm_J5_append_cf1ce ok_J5_append_cf1ce.2 ok_J5_append_cf1ce.1.1 (by decide +kernel) sl_app rfl (by decide) rfl (Nat.le_of_ble_eq_true rfl) (by intro v hv; rw [List.mem_singleton.mp hv]; rfl) (by decide) (by decide) (by decide) (by decide) (by decide) (tt_bridge (kc := 0) (ks := 0) m3 (by rw [m0, m2]; decide) (by rw [m0]; exact hch) (by rw [m0]; decide) (by rw [m0, m2]; decide) hx (by rw [m0, m2]; decide) (by rw [m0, m2]; decide) ?_)
  refine gl_pop (y := wt mJ5_init_a7421 6 xs) (pc := 61) dJ5_init_a7421_61 rfl ?_
  refine gl_returnR (y := wt mJ5_init_a7421 6 xs) (pc := 62) dJ5_init_a7421_62 rfl ⟨rfl, fun k hk => (ad1_n (by omega)).trans (ad1_n (by omega)), ad1_s, hE0, g1, ⟨fun b j hb => (g2.1 b j hb).trans (mo b j hb), g2.2⟩, ?_⟩
  rw [g3, m2]
  decide
theorem sb_txt4 {xs : Nat → Int32} (hx : ∀ j, j < 6 → -128 ≤ chx xs j ∧ chx xs j < 128) (ha : ad 405 = a) : gl D cy X0 293 ad [sbN a] 8 1 22 (wt mJ4_init_a7421 6 xs) (cR D cy X0 293 (Rtxt cy ad a μ 6 xs)) noX 0 [.ref 405, .ref 6100] [] μ := by
  refine gl_aload_n (y := wt mJ4_init_a7421 6 xs) (pc := 0) dJ4_init_a7421_0 rfl rfl ?_
  refine gl_aload_n (y := wt mJ4_init_a7421 6 xs) (pc := 1) dJ4_init_a7421_1 rfl rfl ?_
  refine gl_null 0 (gl_null 1 ?_)
  refine gl_callGI (y := wt mJ4_init_a7421 6 xs) (pc := 2) (ad2 := ad) (d' := 7) (kc' := 1) (ks' := 22) (kc2 := 0) (ks2 := 0) (b := 405) (b' := 405) (n := 1) (y' := wt mJ5_init_a7421 6 xs) (as := [.ref 6100]) (as' := [.ref 6100]) (rest := []) (G9 := [sbN a]) (Fr := []) (R9 := Rtxt cy ad a μ 6 xs) dJ4_init_a7421_2 rfl rfl ml_J4_7 (okI_t ok_J5_init_a7421) rfl rfl (by decide) (fun _ _ => rfl) (Or.inr (Or.inl ⟨rfl, rfl⟩)) rfl rfl rfl (show (2 : Nat) ≤ 5 by decide) (by intro v hv; rw [List.mem_singleton.mp hv]; rfl) (by decide) (by decide) (by decide) (by decide) (fun X1 => sb_txt5 hx ha) (fun r ad' μ' G' h => ?_)
  obtain ⟨rfl, h2, h3⟩ := h
  refine ⟨⟨h2 _ (by decide), Or.inr ⟨h2 _ (by decide), h2 _ (by decide)⟩, fun k hk => h2 k (by omega)⟩, rfl, rfl, ?_⟩
  rw [List.append_nil]
  exact gl_returnR (y := wt mJ4_init_a7421 6 xs) (pc := 5) dJ4_init_a7421_5 rfl ⟨rfl, h2, h3⟩
end Build
