/-! THE LAW'S END: back through the past -/
theorem cl_L_51 : Cond.classLink RL 51 "BarberParliamentLaw$Own" ∈ aw := tb_in 698 (by decide +kernel) (by decide +kernel)
section Law4
variable {D : va_G} {cy : Nat → ClassId} {X0 : Nat → Prop} {PX : String → State → State → Prop} {L : Nat} {xs : Nat → Int32}
set_option maxRecDepth 8000 in
theorem law_198 {T : Int} (hT : T ≤ 100000) : ∀ (c : Nat) (n : Nat) (Lk : kpL) (μ : Mem) (ad : Nat → Nat) (f : Nat → Option Nat) (cc p : Int), cc = c → p = (Lk.length : Int) - 1 → Lk.length ≤ 46 → LV T μ → HV T n c Lk μ → KR Lk → (∀ i j x, Lk[i]? = some x → j + i + 1 = Lk.length → f j = some (x.1 276)) →
    gl D cy X0 293 ad (paC cy 48 (ad 402) f :: kfc cy Lk) 10 0 0 (mL_law L xs) (lwQ X0) PX 198 [.ref 6000, .ref 0, .null, .ref 402, .null, .int (iI cc), .int (iI p), .null, .null] [] μ := by
  intro c
  induction c with
  | zero =>
    intro n Lk μ ad f cc p hcc hp h46 hV hH hR hf
    refine gl_iload (y := mL_law L xs) (pc := 198) (v := cc) dL_law_198 rfl ?_
    refine gl_if_le (y := mL_law L xs) (pc := 200) (tgt := 234) dL_law_200 (by decide) ⟨by omega, by omega⟩ (fun _ => ?_) (fun h => absurd h (by omega))
    refine gl_aload_n (y := mL_law L xs) (pc := 234) dL_law_234 rfl rfl ?_
    refine gl_callV (y := mL_law L xs) (pc := 235) (z' := 276) (d' := 3) (kc' := 0) (ks' := 0) (kc2 := 0) (ks2 := 0) (b := 0) (y' := mX10_undoCount) (as := []) (rest := []) dL_law_235 rfl ml_L_399 ok_X10_undoCount rfl ⟨_, _, rfl⟩ (by decide) rfl (by decide) (by intro v hv; cases hv) (by decide) (by decide) (by decide) (by omega) (by omega) ?_
    refine q_undoCount hV.1 hV.2.1 ?_
    rw [hH.2.2.2.1]
    refine gl_if_ne (y := mL_law L xs) (pc := 238) (tgt := 245) dL_law_238 (by decide) ⟨by decide, by decide⟩ (fun h => absurd rfl h) (fun _ => ?_)
    refine gl_iconst (y := mL_law L xs) (pc := 241) dL_law_241 ?_
    refine gl_goto (y := mL_law L xs) (pc := 242) (tgt := 246) dL_law_242 (by decide) ?_
    exact gl_yes (y := mL_law L xs) (pc := 246) dL_law_246 rfl
  | succ c ih =>
    intro n Lk μ ad f cc p hcc hp h46 hV hH hR hf
    obtain ⟨a1, a2, a3, a4, a5, a6, a7⟩ := id hH
    cases Lk with
    | nil => exact absurd a6 (by simp only [List.length_nil]; omega)
    | cons x Lk =>
      simp only [List.length_cons] at hp h46 a6
      refine gl_iload (y := mL_law L xs) (pc := 198) (v := cc) dL_law_198 rfl ?_
      refine gl_if_le (y := mL_law L xs) (pc := 200) (tgt := 234) dL_law_200 (by decide) ⟨by omega, by omega⟩ (fun h => absurd h (by omega)) (fun _ => ?_)
      refine gl_iinc (y := mL_law L xs) (pc := 203) (v := cc) dL_law_203 rfl (show 5 < 9 by decide) ?_
      refine gl_aload_n (y := mL_law L xs) (pc := 206) dL_law_206 rfl rfl ?_
      refine gl_callV (y := mL_law L xs) (pc := 207) (z' := 276) (d' := 7) (kc' := 0) (ks' := 0) (kc2 := 0) (ks2 := 0) (b := 0) (y' := mX10_undo) (as := []) (rest := []) dL_law_207 rfl ml_L_405 ok_X10_undo rfl ⟨_, _, rfl⟩ (by decide) rfl (by decide) (by intro v hv; cases hv) (by decide) (by decide) (by decide) (by omega) (by omega) ?_
      refine to_c (h_undo a2 a3 (by rw [a4]; omega) hV.1 hV.2.1 (by rw [a4]; omega) (fun k hk τ he => ?_))
      obtain ⟨hH2, hG2⟩ := HV_undo hH hk he
      have e62 : μ 62 2 - 1 = (c : Int) := by rw [a4]; omega
      generalize put 20 τ (wr (wr μ 62 1 k) 62 2 (μ 62 2 - 1)) = M2 at hH2 hG2
      rw [e62]
      refine gl_iload (y := mL_law L xs) (pc := 210) (v := cc + -1) dL_law_210 rfl ?_
      refine gl_icmp_ne (y := mL_law L xs) (pc := 212) (tgt := 226) dL_law_212 (by decide) ⟨by omega, by omega⟩ ⟨by omega, by omega⟩ (fun h => absurd (by omega) h) (fun _ => ?_)
      refine gl_aload_n (y := mL_law L xs) (pc := 215) dL_law_215 rfl rfl ?_
      refine gl_aload_n (y := mL_law L xs) (pc := 216) dL_law_216 rfl rfl ?_
      refine gl_iload (y := mL_law L xs) (pc := 217) (v := p) dL_law_217 rfl ?_
      refine gl_aaload (y := mL_law L xs) (pc := 219) (N := 48) (n := Lk.length) (a9 := x.1 276) dL_law_219 (by omega) (by omega) (by decide) (hf 0 Lk.length x rfl rfl) (by decide) (nok_ref (by decide) (nok_ref (by decide) (nok_null (nok_ref (by decide) (nok_null (nok_int (nok_int (nok_null (nok_null nok_nil))))))))) (nok_ref (by decide) nok_nil) ?_
      refine gl_take (p := paC cy 48 (ad 402) f) (B := x.1) (ω := x.2) (G := kfc cy Lk) (ls' := [.ref 6000, .ref 0, .null, .ref 402, .null, .int (iI (cc + -1)), .int (iI p), .null, .null]) (st' := [.ref 276, .ref 0]) (hR x List.mem_cons_self) rfl rfl ?_
      have hS3 : su (ow 276 x.2 M2) = su M2 := su_ow (Or.inl rfl)
      have hV3 : LV T (ow 276 x.2 M2) := by
        refine ⟨by rw [hS3]; exact hH2.1, ?_⟩
        rw [hS3]
        refine GD_cg (ω := x.2) (GD_eq hH2.1 hG2 (eqC_cg fun r j hr => ?_)) (fun r j hr => ow_r hr)
        show ow 276 x.2 M2 (20 + r) j = M2 (20 + r) j
        exact ow_o (by omega)
      refine gl_callS (y := mL_law L xs) (pc := 220) (z' := 293) (d' := 9) (kc' := 0) (ks' := 0) (kc2 := 0) (ks2 := 0) (y' := mL_isAs) (as := [.ref 0, .ref 276]) (rest := []) dL_law_220 rfl ml_L_387 (Or.inl rfl) (mS0 ok_L_isAs) rfl (by decide) (by intro v hv; simp only [List.mem_cons, List.not_mem_nil, or_false] at hv; rcases hv with rfl | rfl <;> rfl) (by decide) (Nat.le_refl _) (by decide) (by omega) (by omega) ?_
      refine l_isAs hV3 (by omega) ?_
      refine gl_if_ne (y := mL_law L xs) (pc := 223) (tgt := 228) dL_law_223 (by decide) ⟨by decide, by decide⟩ (fun _ => ?_) (fun h => absurd h (by decide))
      refine gl_iinc (y := mL_law L xs) (pc := 228) (v := p) dL_law_228 rfl (show 6 < 9 by decide) ?_
      refine gl_goto (y := mL_law L xs) (pc := 231) (tgt := 198) dL_law_231 (by decide) ?_
      exact ih k Lk (ow 276 x.2 M2) (adT x.1 (ad1 ad 404 (x.1 276))) f (cc + -1) (p + -1) (by omega) (by omega) (by omega) hV3 (HV_cg hH2 (fun b j hb => ow_o (by omega))) (fun z hz => hR z (List.mem_cons_of_mem _ hz)) (fun i j z hz hj => hf (i + 1) j z hz (by simp only [List.length_cons]; omega))
set_option maxRecDepth 8000 in
theorem law_173 {n : Nat} {Lk : kpL} {μ : Mem} {ad : Nat → Nat} (h46 : Lk.length ≤ 46) (hW : LW 2760 n Lk μ) :
    gl D cy X0 293 ad (lF cy ad Lk) 10 0 0 (mL_law L xs) (lwQ X0) PX 173 [.ref 6000, .ref 0, .ref 276, .ref 402, .int (iI (Lk.length : Nat)), .null, .null, .null, .null] [] μ := by
  obtain ⟨hV, hH, hR⟩ := id hW
  refine gl_aload_n (y := mL_law L xs) (pc := 173) dL_law_173 rfl rfl ?_
  refine gl_aload_n (y := mL_law L xs) (pc := 174) dL_law_174 rfl rfl ?_
  refine gl_callS (y := mL_law L xs) (pc := 175) (z' := 293) (d' := 9) (kc' := 0) (ks' := 0) (kc2 := 0) (ks2 := 0) (y' := mL_isAs) (as := [.ref 0, .ref 276]) (rest := []) dL_law_175 rfl ml_L_387 (Or.inl rfl) (mS0 ok_L_isAs) rfl (by decide) (by intro v hv; simp only [List.mem_cons, List.not_mem_nil, or_false] at hv; rcases hv with rfl | rfl <;> rfl) (by decide) (Nat.le_refl _) (by decide) (by omega) (by omega) ?_
  refine l_isAs hV (by decide) ?_
  refine gl_if_ne (y := mL_law L xs) (pc := 178) (tgt := 183) dL_law_178 (by decide) ⟨by decide, by decide⟩ (fun _ => ?_) (fun h => absurd h (by decide))
  refine gl_bipush (y := mL_law L xs) (pc := 183) dL_law_183 (by decide) ?_
  refine gl_iload (y := mL_law L xs) (pc := 185) (v := (Lk.length : Int)) dL_law_185 rfl ?_
  refine gl_mmin (y := mL_law L xs) (pc := 187) dL_law_187 ml_L_402 (by decide) (by decide) ⟨by decide, by decide⟩ ⟨by omega, by omega⟩ ?_
  refine gl_istore (y := mL_law L xs) (pc := 190) dL_law_190 (show 5 < 9 by decide) ?_
  refine gl_iload (y := mL_law L xs) (pc := 192) (v := (Lk.length : Int)) dL_law_192 rfl ?_
  refine gl_iconst (y := mL_law L xs) (pc := 194) dL_law_194 ?_
  refine gl_isub (y := mL_law L xs) (pc := 195) dL_law_195 ?_
  refine gl_istore (y := mL_law L xs) (pc := 196) dL_law_196 (show 6 < 9 by decide) ?_
  refine gl_null 2 (gl_null 4 ?_)
  exact law_198 (by decide) (min 8 Lk.length) n Lk μ ad (kff Lk) (min 8 (Lk.length : Int)) ((Lk.length : Int) - 1) (by omega) rfl h46 hV hH hR (fun i j x hx hj => kff_at (A := x.1) (ω := x.2) hx hj)
set_option maxRecDepth 8000 in
/-- the law from where the chamber is set up -/
theorem law_22 (hL : L ≤ 300) {μ : Mem} {ad : Nat → Nat} {n : Nat} {v3 v4 v5 v6 v7 v8 : Value} (hV : LV 0 μ) (hn : n < 8) (h1 : μ 62 1 = n) (h2 : μ 62 2 = 0) :
    gl D cy X0 293 ad [] 10 (35 * 46 + 1) (776 * 46 + 48) (mL_law L xs) (lwQ X0) PX 22 [.ref 6000, .ref 0, .ref 276, v3, v4, v5, v6, v7, v8] [.int (iI 1)] μ := by
  refine gl_null 3 (gl_null 4 (gl_null 5 (gl_null 6 (gl_null 7 (gl_null 8 ?_)))))
  refine gl_if_ne (y := mL_law L xs) (pc := 22) (tgt := 27) dL_law_22 (by decide) ⟨by decide, by decide⟩ (fun _ => ?_) (fun h => absurd h (by decide))
  refine gl_bipush (y := mL_law L xs) (pc := 27) dL_law_27 (by decide) ?_
  refine gl_newo (y := mL_law L xs) (pc := 29) (kc := 35 * 46) (ks := 776 * 46) dL_law_29 cl_L_51 rfl (by decide) (nok_ref (by decide) (nok_ref (by decide) (nok_ref (by decide) (nok_null (nok_null (nok_null (nok_null (nok_null (nok_null nok_nil))))))))) nok_nil (fun a => ?_)
  refine gl_astore_n (y := mL_law L xs) (pc := 32) dL_law_32 rfl (show 3 < 9 by decide) ?_
  refine gl_iconst (y := mL_law L xs) (pc := 33) dL_law_33 ?_
  refine gl_istore (y := mL_law L xs) (pc := 34) dL_law_34 (show 4 < 9 by decide) ?_
  refine gl_iconst (y := mL_law L xs) (pc := 36) dL_law_36 ?_
  refine gl_istore (y := mL_law L xs) (pc := 37) dL_law_37 (show 5 < 9 by decide) ?_
  exact law_39 (kc0 := 0) (ks0 := 0) hL (fun ad' n' Lk' μ' h1 h2 => law_173 h1 h2) 46 0 rfl (ad1 ad 402 a) n [] μ (Nat.le_refl _) ⟨hV, ⟨hV.1, hn, h1, h2, by decide, Nat.zero_le _, fun i x hi => absurd hi (Nat.not_lt_zero _)⟩, fun x hx => by cases hx⟩
end Law4
