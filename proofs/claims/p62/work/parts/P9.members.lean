/-! BEGINS: the members -/
def ms9 : Nat → Int32 := fun j => sc_b "member " j
theorem ms9_b : ∀ j, j < 7 → -128 ≤ chx ms9 j ∧ chx ms9 j < 128 := by decide +kernel
/-- a member's letters: the k-th, of weight w, place p, purse u -/
def mtx (k w p u : Nat) : List Int := lx 7 ms9 ++ ([109, 97 + (k : Int)] ++ ([32] ++ (dgl w ++ ([32] ++ (dgl p ++ ([32] ++ (dgl u ++ [59])))))))
def mtl : Nat → List (Nat × Nat × Nat) → List Int
  | _, [] => []
  | i, x :: r => mtx i x.1 x.2.1 x.2.2 ++ mtl (i + 1) r
theorem mtl_s : ∀ (ms : List (Nat × Nat × Nat)) (i : Nat) (x : Nat × Nat × Nat), mtl i (ms ++ [x]) = mtl i ms ++ mtx (i + ms.length) x.1 x.2.1 x.2.2
  | [], i, x => by
    show mtx i x.1 x.2.1 x.2.2 ++ [] = [] ++ mtx (i + 0) x.1 x.2.1 x.2.2
    rw [List.append_nil, List.nil_append, Nat.add_zero]
  | a :: r, i, x => by
    show mtx i a.1 a.2.1 a.2.2 ++ mtl (i + 1) (r ++ [x]) = (mtx i a.1 a.2.1 a.2.2 ++ mtl (i + 1) r) ++ mtx (i + (r.length + 1)) x.1 x.2.1 x.2.2
    rw [mtl_s r (i + 1) x, List.append_assoc, show i + 1 + r.length = i + (r.length + 1) by omega]
theorem mtx_l {k w p u : Nat} : (mtx k w p u).length ≤ 19 := by
  have g1 := dgl_l w
  have g2 := dgl_l p
  have g3 := dgl_l u
  simp only [mtx, List.length_append, List.length_cons, List.length_nil, lx_len]
  omega
theorem mtl_l : ∀ (ms : List (Nat × Nat × Nat)) (i : Nat), (mtl i ms).length ≤ 19 * ms.length
  | [], i => Nat.zero_le _
  | a :: r, i => by
    have h1 := mtl_l r (i + 1)
    have h2 := mtx_l (k := i) (w := a.1) (p := a.2.1) (u := a.2.2)
    simp only [mtl, List.length_append, List.length_cons]
    omega
/-- the rows of the members made so far -/
def MR (ms : List (Nat × Nat × Nat)) (μ : Mem) : Prop := ∀ i x, ms[i]? = some x → μ 277 i = (x.1 : Nat) ∧ μ 278 i = (x.2.1 : Nat) ∧ μ 279 i = (x.2.2 : Nat) ∧ μ 280 i = 5
def okM (ms : List (Nat × Nat × Nat)) : Prop := ∀ x ∈ ms, (1 ≤ x.1 ∧ x.1 ≤ 9) ∧ x.2.1 ≤ 20 ∧ x.2.2 ≤ 11
/-- what the members' loop leaves alone -/
def FR (μ μ1 : Mem) : Prop := ∀ b j, b < 5000 → (b < 277 ∨ 280 < b) → (b ≠ 276 ∨ j ≠ 15) → μ b j = μ1 b j
theorem BI_wr {l : List Int} {cap : Int} {μ0 μ μ' : Mem} (h : BI l cap μ0 μ) (e : ∀ b j, 5000 ≤ b → μ' b j = μ b j) : BI l cap μ' μ' := by
  obtain ⟨o, q, c, hc, le⟩ := h
  exact ⟨⟨(e _ _ (by decide)).trans o.1, fun j c hj => (e _ _ (by decide)).trans (o.2 j c hj)⟩, ⟨fun b j hb => rfl, (e _ _ (by decide)).trans q.2⟩, (e _ _ (by decide)).trans c, hc, le⟩
theorem MR_s {ms : List (Nat × Nat × Nat)} {μ μ' : Mem} {x : Nat × Nat × Nat} (h : MR ms μ) (e : ∀ b i, 277 ≤ b → b ≤ 280 → i < ms.length → μ' b i = μ b i) (h1 : μ' 277 ms.length = (x.1 : Nat)) (h2 : μ' 278 ms.length = (x.2.1 : Nat)) (h3 : μ' 279 ms.length = (x.2.2 : Nat)) (h4 : μ' 280 ms.length = 5) : MR (ms ++ [x]) μ' := by
  intro i z hz
  by_cases g : i < ms.length
  · rw [List.getElem?_append_left g] at hz
    have := h i z hz
    rw [e 277 i (by decide) (by decide) g, e 278 i (by decide) (by decide) g, e 279 i (by decide) (by decide) g, e 280 i (by decide) (by decide) g]
    exact this
  · rw [List.getElem?_append_right (by omega)] at hz
    have hl := (List.getElem?_eq_some_iff.mp hz).1
    simp only [List.length_cons, List.length_nil] at hl
    have hi : i = ms.length := by omega
    subst hi
    rw [Nat.sub_self] at hz
    cases hz
    exact ⟨h1, h2, h3, h4⟩
theorem lx_nm {k : Nat} {f : Nat → Int32} (hk : k < 12) (h0 : f 0 = iI 109) (h1 : f 1 = iI (97 + (k : Int))) : lx 2 f = [109, 97 + (k : Int)] := by
  show [(f 0).toInt, (f 1).toInt] = _
  rw [h0, h1, iI_t (by decide), iI_t ⟨by omega, by omega⟩]
section Mem
variable {D : va_G} {cy : Nat → ClassId} {X0 : Nat → Prop} {kr sr d : Nat} {PQ : Array Value → State → Outcome → State → Prop} {PX : String → State → State → Prop} {L : Nat} {xs : Nat → Int32}
theorem gl_wp {y : MI} {nn pc kc ks : Nat} {ad : Nat → Nat} {F9 : va_W} {ls st : List Value} {μ : Mem} {a : Int} (K : gl D cy X0 nn ad F9 d kc ks y PQ PX pc ls (.int (iI (wp a)) :: st) μ) : gl D cy X0 nn ad F9 d kc ks y PQ PX pc ls (.int (iI a) :: st) μ := (congrArg (fun z => gl D cy X0 nn ad F9 d kc ks y PQ PX pc ls (.int z :: st) μ) (iI_wp a)).mp K
theorem gl_mem {y : MI} {nn pc kc ks : Nat} {ad : Nat → Nat} {F9 : va_W} {ls st : List Value} {μ μ2 : Mem} (e : μ = μ2) (K : gl D cy X0 nn ad F9 d kc ks y PQ PX pc ls st μ2) : gl D cy X0 nn ad F9 d kc ks y PQ PX pc ls st μ := by rw [e]; exact K
set_option maxRecDepth 8000 in
theorem bg_member (hL : L ≤ 300) (hd : 9 ≤ d) {i k : Nat} {cap : Int} {l0 : List Int} {μ : Mem} {ad : Nat → Nat} {E : va_W} (hk : k < 12) (hb : BI l0 cap μ μ) (hl0 : l0.length ≤ 300)
    (K : ∀ ad' w p u μ' cap', (1 ≤ w ∧ w ≤ 9) → p ≤ 20 → u ≤ 11 → (∀ j, j < 293 ∨ j = 5000 ∨ j = 5005 ∨ 6000 ≤ j → ad' j = ad j) → BI (l0 ++ mtx k w p u) cap' μ' μ' → μ' 277 k = (w : Nat) → μ' 278 k = (p : Nat) → μ' 279 k = (u : Nat) → μ' 280 k = 5 → (∀ b j, 277 ≤ b → b ≤ 280 → j < k → μ' b j = μ b j) → (∀ b j, b < 5000 → (b < 277 ∨ 280 < b) → (b ≠ 276 ∨ j ≠ 15) → μ' b j = μ b j) →
      gl D cy X0 293 ad' E d (kB cap' + (4 * i + kr)) (sB cap' + (26 * i + sr)) (mL_begins L xs) PQ PX 215 [.ref 0, .ref 276, .ref 6000, .ref 5000, .int (iI ((k + 1 : Nat) : Int))] [] μ') :
    gl D cy X0 293 ad E d (kB cap + (4 * (i + 1) + kr)) (sB cap + (26 * (i + 1) + sr)) (mL_begins L xs) PQ PX 224 [.ref 0, .ref 276, .ref 6000, .ref 5000, .int (iI (k : Nat))] [] μ := by
  refine gl_aload_n (y := mL_begins L xs) (pc := 224) dL_begins_224 rfl rfl ?_
  refine gl_getR (y := mL_begins L xs) (pc := 225) (q := 277) dL_begins_225 fl_L_56 (ow_sh (c := 276) (Or.inl rfl) 0 (by decide)) rfl (by decide) ?_
  refine gl_iload (y := mL_begins L xs) (pc := 228) (v := (k : Int)) dL_begins_228 rfl ?_
  refine gl_iconst (y := mL_begins L xs) (pc := 230) dL_begins_230 ?_
  refine gl_aload_n (y := mL_begins L xs) (pc := 231) dL_begins_231 rfl rfl ?_
  refine gl_bipush (y := mL_begins L xs) (pc := 232) dL_begins_232 (by decide) ?_
  refine gl_iconst (y := mL_begins L xs) (pc := 234) dL_begins_234 ?_
  refine gl_iload (y := mL_begins L xs) (pc := 235) (v := (k : Int)) dL_begins_235 rfl ?_
  refine gl_imul (y := mL_begins L xs) (pc := 237) dL_begins_237 ?_
  refine gl_iadd (y := mL_begins L xs) (pc := 238) dL_begins_238 ?_
  refine gl_top (b := ((8 + 3 * k : Nat) : Int)) (by omega) (fun _ => ?_)
  refine gl_bipush (y := mL_begins L xs) (pc := 239) dL_begins_239 (by decide) ?_
  refine gl_callS (y := mL_begins L xs) (pc := 241) (z' := 0) (d' := 1) (kc' := 0) (ks' := 0) (kc2 := kB cap + (4 * (i + 1) + kr)) (ks2 := sB cap + (26 * (i + 1) + sr)) (y' := mL_pick L xs) (as := [.ref 6000, .int (iI ((8 + 3 * k : Nat) : Int)), .int (iI ((9 : Nat) : Int))]) (rest := [.int (iI 1), .int (iI (k : Nat)), .ref 277]) dL_begins_241 rfl ml_L_300 (Or.inr rfl) ok_L_pick rfl (show (3 : Nat) ≤ _ from Nat.le_of_ble_eq_true rfl) (by intro v hv; simp only [List.mem_cons, List.not_mem_nil, or_false] at hv; rcases hv with rfl | rfl | rfl <;> rfl) (Nat.le_of_ble_eq_true rfl) (Nat.zero_le _) (by omega) (by omega) (by omega) ?_
  refine l_pick hL (k := 8 + 3 * k) (by omega) (n := 9) (by decide) (fun vw hvw => ?_)
  refine gl_iadd (y := mL_begins L xs) (pc := 244) dL_begins_244 ?_
  refine gl_iastore (y := mL_begins L xs) (pc := 245) (n := 12) (k := k) dL_begins_245 (ow_sh (c := 276) (Or.inl rfl) 1 (by decide)) (by decide) rfl (by omega) (by decide) ⟨by omega, by omega⟩ ?_
  refine gl_aload_n (y := mL_begins L xs) (pc := 246) dL_begins_246 rfl rfl ?_
  refine gl_getR (y := mL_begins L xs) (pc := 247) (q := 278) dL_begins_247 fl_L_304 (ow_sh (c := 276) (Or.inl rfl) 0 (by decide)) rfl (by decide) ?_
  refine gl_iload (y := mL_begins L xs) (pc := 250) (v := (k : Int)) dL_begins_250 rfl ?_
  refine gl_aload_n (y := mL_begins L xs) (pc := 252) dL_begins_252 rfl rfl ?_
  refine gl_bipush (y := mL_begins L xs) (pc := 253) dL_begins_253 (by decide) ?_
  refine gl_iconst (y := mL_begins L xs) (pc := 255) dL_begins_255 ?_
  refine gl_iload (y := mL_begins L xs) (pc := 256) (v := (k : Int)) dL_begins_256 rfl ?_
  refine gl_imul (y := mL_begins L xs) (pc := 258) dL_begins_258 ?_
  refine gl_iadd (y := mL_begins L xs) (pc := 259) dL_begins_259 ?_
  refine gl_top (b := ((9 + 3 * k : Nat) : Int)) (by omega) (fun _ => ?_)
  refine gl_bipush (y := mL_begins L xs) (pc := 260) dL_begins_260 (by decide) ?_
  refine gl_callS (y := mL_begins L xs) (pc := 262) (z' := 0) (d' := 1) (kc' := 0) (ks' := 0) (kc2 := kB cap + (4 * (i + 1) + kr)) (ks2 := sB cap + (26 * (i + 1) + sr)) (y' := mL_pick L xs) (as := [.ref 6000, .int (iI ((9 + 3 * k : Nat) : Int)), .int (iI ((21 : Nat) : Int))]) (rest := [.int (iI (k : Nat)), .ref 278]) dL_begins_262 rfl ml_L_300 (Or.inr rfl) ok_L_pick rfl (show (3 : Nat) ≤ _ from Nat.le_of_ble_eq_true rfl) (by intro v hv; simp only [List.mem_cons, List.not_mem_nil, or_false] at hv; rcases hv with rfl | rfl | rfl <;> rfl) (Nat.le_of_ble_eq_true rfl) (Nat.zero_le _) (by omega) (by omega) (by omega) ?_
  refine l_pick hL (k := 9 + 3 * k) (by omega) (n := 21) (by decide) (fun vp hvp => ?_)
  refine gl_iastore (y := mL_begins L xs) (pc := 265) (n := 12) (k := k) dL_begins_265 (ow_sh (c := 276) (Or.inl rfl) 2 (by decide)) (by decide) rfl (by omega) (by decide) ⟨by omega, by omega⟩ ?_
  refine gl_aload_n (y := mL_begins L xs) (pc := 266) dL_begins_266 rfl rfl ?_
  refine gl_getR (y := mL_begins L xs) (pc := 267) (q := 279) dL_begins_267 fl_L_76 (ow_sh (c := 276) (Or.inl rfl) 0 (by decide)) rfl (by decide) ?_
  refine gl_iload (y := mL_begins L xs) (pc := 270) (v := (k : Int)) dL_begins_270 rfl ?_
  refine gl_aload_n (y := mL_begins L xs) (pc := 272) dL_begins_272 rfl rfl ?_
  refine gl_bipush (y := mL_begins L xs) (pc := 273) dL_begins_273 (by decide) ?_
  refine gl_iconst (y := mL_begins L xs) (pc := 275) dL_begins_275 ?_
  refine gl_iload (y := mL_begins L xs) (pc := 276) (v := (k : Int)) dL_begins_276 rfl ?_
  refine gl_imul (y := mL_begins L xs) (pc := 278) dL_begins_278 ?_
  refine gl_iadd (y := mL_begins L xs) (pc := 279) dL_begins_279 ?_
  refine gl_top (b := ((10 + 3 * k : Nat) : Int)) (by omega) (fun _ => ?_)
  refine gl_bipush (y := mL_begins L xs) (pc := 280) dL_begins_280 (by decide) ?_
  refine gl_callS (y := mL_begins L xs) (pc := 282) (z' := 0) (d' := 1) (kc' := 0) (ks' := 0) (kc2 := kB cap + (4 * (i + 1) + kr)) (ks2 := sB cap + (26 * (i + 1) + sr)) (y' := mL_pick L xs) (as := [.ref 6000, .int (iI ((10 + 3 * k : Nat) : Int)), .int (iI ((12 : Nat) : Int))]) (rest := [.int (iI (k : Nat)), .ref 279]) dL_begins_282 rfl ml_L_300 (Or.inr rfl) ok_L_pick rfl (show (3 : Nat) ≤ _ from Nat.le_of_ble_eq_true rfl) (by intro v hv; simp only [List.mem_cons, List.not_mem_nil, or_false] at hv; rcases hv with rfl | rfl | rfl <;> rfl) (Nat.le_of_ble_eq_true rfl) (Nat.zero_le _) (by omega) (by omega) (by omega) ?_
  refine l_pick hL (k := 10 + 3 * k) (by omega) (n := 12) (by decide) (fun vu hvu => ?_)
  refine gl_iastore (y := mL_begins L xs) (pc := 285) (n := 12) (k := k) dL_begins_285 (ow_sh (c := 276) (Or.inl rfl) 3 (by decide)) (by decide) rfl (by omega) (by decide) ⟨by omega, by omega⟩ ?_
  refine gl_aload_n (y := mL_begins L xs) (pc := 286) dL_begins_286 rfl rfl ?_
  refine gl_getR (y := mL_begins L xs) (pc := 287) (q := 280) dL_begins_287 fl_L_81 (ow_sh (c := 276) (Or.inl rfl) 0 (by decide)) rfl (by decide) ?_
  refine gl_iload (y := mL_begins L xs) (pc := 290) (v := (k : Int)) dL_begins_290 rfl ?_
  refine gl_iconst (y := mL_begins L xs) (pc := 292) dL_begins_292 ?_
  refine gl_iastore (y := mL_begins L xs) (pc := 293) (n := 12) (k := k) dL_begins_293 (ow_sh (c := 276) (Or.inl rfl) 4 (by decide)) (by decide) rfl (by omega) (by decide) (by decide) ?_
  refine gl_aload_n (y := mL_begins L xs) (pc := 294) dL_begins_294 rfl rfl ?_
  refine gl_dup (y := mL_begins L xs) (pc := 295) dL_begins_295 rfl ?_
  refine gl_getI (y := mL_begins L xs) (pc := 296) dL_begins_296 fl_L_362 (ow_sh (c := 276) (Or.inl rfl) 0 (by decide)) rfl (by decide) (fun _ => ?_)
  refine gl_aload_n (y := mL_begins L xs) (pc := 299) dL_begins_299 rfl rfl ?_
  refine gl_getR (y := mL_begins L xs) (pc := 300) (q := 279) dL_begins_300 fl_L_76 (ow_sh (c := 276) (Or.inl rfl) 0 (by decide)) rfl (by decide) ?_
  refine gl_iload (y := mL_begins L xs) (pc := 303) (v := (k : Int)) dL_begins_303 rfl ?_
  refine gl_iaload (y := mL_begins L xs) (pc := 305) (n := 12) (k := k) dL_begins_305 (ow_sh (c := 276) (Or.inl rfl) 3 (by decide)) (by decide) rfl (by omega) (by decide) (fun _ => ?_)
  refine gl_iadd (y := mL_begins L xs) (pc := 306) dL_begins_306 ?_
  refine gl_wp ?_
  refine gl_putI (y := mL_begins L xs) (pc := 307) dL_begins_307 fp_L_362 (ow_sh (c := 276) (Or.inl rfl) 0 (by decide)) rfl (by decide) (wp_rng _) ?_
  have gw := dgl_l (1 + vw)
  have gp := dgl_l vp
  have gu := dgl_l vu
  obtain ⟨M, eM⟩ : ∃ M, M = wr (wr (wr (wr (wr μ 277 k (1 + (vw : Int))) 278 k (vp : Nat)) 279 k (vu : Nat)) 280 k 5) 276 15 (wp (wr (wr (wr (wr μ 277 k (1 + (vw : Int))) 278 k (vp : Nat)) 279 k (vu : Nat)) 280 k 5 276 15 + wr (wr (wr (wr μ 277 k (1 + (vw : Int))) 278 k (vp : Nat)) 279 k (vu : Nat)) 280 k 5 279 k)) := ⟨_, rfl⟩
  refine gl_mem eM.symm ?_
  have hB : BI l0 cap M M := BI_wr hb (fun b j hbb => by rw [eM, wr_na (by omega), wr_na (by omega), wr_na (by omega), wr_na (by omega), wr_na (by omega)])
  have r1 : M 277 k = ((1 + vw : Nat) : Int) := by rw [eM, wr_na (by decide), wr_na (by decide), wr_na (by decide), wr_na (by decide), wr_s]; omega
  have r2 : M 278 k = (vp : Nat) := by rw [eM, wr_na (by decide), wr_na (by decide), wr_na (by decide), wr_s]
  have r3 : M 279 k = (vu : Nat) := by rw [eM, wr_na (by decide), wr_na (by decide), wr_s]
  have r4 : M 280 k = 5 := by rw [eM, wr_na (by decide), wr_s]
  have rk : ∀ b j, 277 ≤ b → b ≤ 280 → j < k → M b j = μ b j := fun b j h1 h2 h3 => by rw [eM, wr_n (by omega), wr_n (by omega), wr_n (by omega), wr_n (by omega), wr_n (by omega)]
  have ro : ∀ b j, (b < 277 ∨ 280 < b) → (b ≠ 276 ∨ j ≠ 15) → M b j = μ b j := fun b j h1 h2 => by rw [eM, wr_n (by omega), wr_na (by omega), wr_na (by omega), wr_na (by omega), wr_na (by omega)]
  refine gl_aload_n (y := mL_begins L xs) (pc := 310) dL_begins_310 rfl rfl ?_
  refine gl_ldcW (y := mL_begins L xs) (pc := 311) (i := 32) (tx := "member ") dL_begins_311 rfl ?_
  refine gl_apT (kr := 4 * (i + 1) + kr) (sr := 26 * (i + 1) + sr) (cap := cap) (μ0 := M) (l := l0) (y := mL_begins L xs) (pc := 314) (t := 7032) (ta := ad 7032) (tb := ad 7232) (L := 7) (xs := ms9) dL_begins_314 ml_L_40 (by decide) ⟨by decide, Or.inl ⟨32, _, rfl, rfl, rfl, by decide, rfl⟩⟩ rfl ms9_b hB (by omega) (by decide) (by decide) (by omega) (fun m1 c1 hc1 hb1 => ?_)
  refine gl_iload (y := mL_begins L xs) (pc := 317) (v := (k : Int)) dL_begins_317 rfl ?_
  refine gl_callGS (y := mL_begins L xs) (pc := 319) (ad2 := ad) (d' := 8) (kc' := 4) (ks' := 26) (kc2 := kB c1 + (4 * i + kr)) (ks2 := sB c1 + (26 * i + sr)) (n := 1) (y' := mL_name) (as := [.int (iI (k : Nat))]) (as' := [.int (iI (k : Nat))]) (rest := [.ref 5000]) (G9 := []) (Fr := E) (R9 := Rnm cy ad m1 k) dL_begins_319 rfl rfl ml_L_367 (mS0 ok_L_name) (by decide) (fun _ _ => rfl) (Or.inl rfl) rfl rfl (by decide) (by intro v hv; rw [List.mem_singleton.mp hv]; rfl) (by decide) (by omega) (by omega) (by omega) (fun X1 => l_name (by omega)) (fun r ad' μ' G' h => ?_)
  obtain ⟨ta, tb, f, rfl, n2, n3, n4, rfl, nf0, nf1⟩ := h
  have hT : nTx (mL_begins L xs) := fun L' xs' e => by cases e
  refine ⟨⟨n2 _ (by decide), Or.inl hT, fun k hk => n2 k (by omega)⟩, okr_map (P := fun k => k < 293 ∨ k = 6000 ∨ k = 5000) (okr_ref (by decide) (okr_ref (by decide) (okr_ref (by decide) (okr_ref (by decide) (okr_int okr_nil))))) (fun k hk => n2 k (by omega)), okr_map (P := fun k => k = 5000) (okr_ref rfl okr_nil) (fun k hk => n2 k (by omega)), ?_⟩
  have hb1' : BI (l0 ++ lx 7 ms9) c1 M μ' := ⟨eqB_OL n4 hb1.1, ⟨fun b j hbb => (n4.1 b j hbb).trans (hb1.2.1.1 b j hbb), n4.2.2.2.2⟩, n4.2.2.1.trans hb1.2.2.1, hb1.2.2.2.1, hb1.2.2.2.2⟩
  have ln := lx_nm (by omega) nf0 nf1
  refine gl_apT (kr := 4 * i + kr) (sr := 26 * i + sr) (cap := c1) (μ0 := M) (l := l0 ++ lx 7 ms9) (y := mL_begins L xs) (pc := 322) (t := 405) (ta := ta) (tb := tb) (L := 2) (xs := f) dL_begins_322 ml_L_40 (by decide) ⟨by decide, Or.inr ⟨1, 0, _, _, rfl, rfl⟩⟩ n3 (fun j hj => ?_) hb1' (by simp only [List.length_append, List.length_cons, List.length_nil, lx_len]; omega) (by decide) (by decide) (by omega) (fun m2 c2 hc2 hb2 => ?_)
  · rcases (show j = 0 ∨ j = 1 by omega) with e | e
    · rw [e]; show -128 ≤ (f 0).toInt ∧ (f 0).toInt < 128; rw [nf0, iI_t (by decide)]; decide
    · rw [e]; show -128 ≤ (f 1).toInt ∧ (f 1).toInt < 128; rw [nf1, iI_t ⟨by omega, by omega⟩]; omega
  refine gl_cells (F3 := E) List.perm_append_comm ?_
  rw [ln] at hb2
  refine gl_bipush (y := mL_begins L xs) (pc := 325) dL_begins_325 (by decide) ?_
  refine gl_apC (kr := 4 * i + kr) (sr := 26 * i + sr) (cap := c2) (μ0 := M) (l := ((l0 ++ lx 7 ms9) ++ [109, 97 + (k : Int)])) (y := mL_begins L xs) (pc := 327) dL_begins_327 ml_L_43 (by decide) hb2 (by decide) (by simp only [List.length_append, List.length_cons, List.length_nil, lx_len]; omega) (by decide) (by omega) (fun m3 c3 hc3 hb3 => ?_)
  refine gl_aload_n (y := mL_begins L xs) (pc := 330) dL_begins_330 rfl rfl ?_
  refine gl_getR (y := mL_begins L xs) (pc := 331) (q := 277) dL_begins_331 fl_L_56 (ow_sh (c := 276) (Or.inl rfl) 0 (by decide)) rfl (by decide) ?_
  refine gl_iload (y := mL_begins L xs) (pc := 334) (v := (k : Int)) dL_begins_334 rfl ?_
  refine gl_iaload (y := mL_begins L xs) (pc := 336) (n := 12) (k := k) dL_begins_336 (ow_sh (c := 276) (Or.inl rfl) 1 (by decide)) (by decide) rfl (by omega) (by decide) (fun _ => ?_)
  refine gl_top (b := ((1 + vw : Nat) : Int)) (by rw [hb3.2.1.1 _ _ (by decide)]; exact r1) (fun _ => ?_)
  refine gl_apI (kr := 4 * i + kr) (sr := 26 * i + sr) (cap := c3) (μ0 := M) (l := (((l0 ++ lx 7 ms9) ++ [109, 97 + (k : Int)]) ++ [32])) (y := mL_begins L xs) (pc := 337) dL_begins_337 ml_L_359 (by decide) hb3 (by omega) (by simp only [List.length_append, List.length_cons, List.length_nil, lx_len]; omega) (by decide) (by omega) (fun m4 c4 hc4 hb4 => ?_)
  refine gl_bipush (y := mL_begins L xs) (pc := 340) dL_begins_340 (by decide) ?_
  refine gl_apC (kr := 4 * i + kr) (sr := 26 * i + sr) (cap := c4) (μ0 := M) (l := ((((l0 ++ lx 7 ms9) ++ [109, 97 + (k : Int)]) ++ [32]) ++ dgl (1 + vw))) (y := mL_begins L xs) (pc := 342) dL_begins_342 ml_L_43 (by decide) hb4 (by decide) (by simp only [List.length_append, List.length_cons, List.length_nil, lx_len]; omega) (by decide) (by omega) (fun m5 c5 hc5 hb5 => ?_)
  refine gl_aload_n (y := mL_begins L xs) (pc := 345) dL_begins_345 rfl rfl ?_
  refine gl_getR (y := mL_begins L xs) (pc := 346) (q := 278) dL_begins_346 fl_L_304 (ow_sh (c := 276) (Or.inl rfl) 0 (by decide)) rfl (by decide) ?_
  refine gl_iload (y := mL_begins L xs) (pc := 349) (v := (k : Int)) dL_begins_349 rfl ?_
  refine gl_iaload (y := mL_begins L xs) (pc := 351) (n := 12) (k := k) dL_begins_351 (ow_sh (c := 276) (Or.inl rfl) 2 (by decide)) (by decide) rfl (by omega) (by decide) (fun _ => ?_)
  refine gl_top (b := ((vp : Nat) : Int)) (by rw [hb5.2.1.1 _ _ (by decide)]; exact r2) (fun _ => ?_)
  refine gl_apI (kr := 4 * i + kr) (sr := 26 * i + sr) (cap := c5) (μ0 := M) (l := (((((l0 ++ lx 7 ms9) ++ [109, 97 + (k : Int)]) ++ [32]) ++ dgl (1 + vw)) ++ [32])) (y := mL_begins L xs) (pc := 352) dL_begins_352 ml_L_359 (by decide) hb5 (by omega) (by simp only [List.length_append, List.length_cons, List.length_nil, lx_len]; omega) (by decide) (by omega) (fun m6 c6 hc6 hb6 => ?_)
  refine gl_bipush (y := mL_begins L xs) (pc := 355) dL_begins_355 (by decide) ?_
  refine gl_apC (kr := 4 * i + kr) (sr := 26 * i + sr) (cap := c6) (μ0 := M) (l := ((((((l0 ++ lx 7 ms9) ++ [109, 97 + (k : Int)]) ++ [32]) ++ dgl (1 + vw)) ++ [32]) ++ dgl (vp))) (y := mL_begins L xs) (pc := 357) dL_begins_357 ml_L_43 (by decide) hb6 (by decide) (by simp only [List.length_append, List.length_cons, List.length_nil, lx_len]; omega) (by decide) (by omega) (fun m7 c7 hc7 hb7 => ?_)
  refine gl_aload_n (y := mL_begins L xs) (pc := 360) dL_begins_360 rfl rfl ?_
  refine gl_getR (y := mL_begins L xs) (pc := 361) (q := 279) dL_begins_361 fl_L_76 (ow_sh (c := 276) (Or.inl rfl) 0 (by decide)) rfl (by decide) ?_
  refine gl_iload (y := mL_begins L xs) (pc := 364) (v := (k : Int)) dL_begins_364 rfl ?_
  refine gl_iaload (y := mL_begins L xs) (pc := 366) (n := 12) (k := k) dL_begins_366 (ow_sh (c := 276) (Or.inl rfl) 3 (by decide)) (by decide) rfl (by omega) (by decide) (fun _ => ?_)
  refine gl_top (b := ((vu : Nat) : Int)) (by rw [hb7.2.1.1 _ _ (by decide)]; exact r3) (fun _ => ?_)
  refine gl_apI (kr := 4 * i + kr) (sr := 26 * i + sr) (cap := c7) (μ0 := M) (l := (((((((l0 ++ lx 7 ms9) ++ [109, 97 + (k : Int)]) ++ [32]) ++ dgl (1 + vw)) ++ [32]) ++ dgl (vp)) ++ [32])) (y := mL_begins L xs) (pc := 367) dL_begins_367 ml_L_359 (by decide) hb7 (by omega) (by simp only [List.length_append, List.length_cons, List.length_nil, lx_len]; omega) (by decide) (by omega) (fun m8 c8 hc8 hb8 => ?_)
  refine gl_bipush (y := mL_begins L xs) (pc := 370) dL_begins_370 (by decide) ?_
  refine gl_apC (kr := 4 * i + kr) (sr := 26 * i + sr) (cap := c8) (μ0 := M) (l := ((((((((l0 ++ lx 7 ms9) ++ [109, 97 + (k : Int)]) ++ [32]) ++ dgl (1 + vw)) ++ [32]) ++ dgl (vp)) ++ [32]) ++ dgl (vu))) (y := mL_begins L xs) (pc := 372) dL_begins_372 ml_L_43 (by decide) hb8 (by decide) (by simp only [List.length_append, List.length_cons, List.length_nil, lx_len]; omega) (by decide) (by omega) (fun m9 c9 hc9 hb9 => ?_)
  refine gl_pop (y := mL_begins L xs) (pc := 375) dL_begins_375 rfl ?_
  refine gl_iinc (y := mL_begins L xs) (pc := 376) (v := (k : Int)) dL_begins_376 rfl (show 4 < 5 by decide) ?_
  refine gl_goto (y := mL_begins L xs) (pc := 379) (tgt := 215) dL_begins_379 (by decide) ?_
  have hfin := BI_wr hb9 (μ' := m9) (fun b j hbb => rfl)
  have q := hb9.2.1.1
  have el : (((((((((l0 ++ lx 7 ms9) ++ [109, 97 + (k : Int)]) ++ [32]) ++ dgl (1 + vw)) ++ [32]) ++ dgl (vp)) ++ [32]) ++ dgl (vu)) ++ [59]) = l0 ++ mtx k (1 + vw) vp vu := by simp only [mtx, List.append_assoc]
  rw [el] at hfin
  exact K ad' (1 + vw) vp vu m9 c9 ⟨by omega, by omega⟩ (by omega) (by omega) n2 hfin ((q _ _ (by decide)).trans r1) ((q _ _ (by decide)).trans r2) ((q _ _ (by decide)).trans r3) ((q _ _ (by decide)).trans r4) (fun b j h1 h2 h3 => (q b j (by omega)).trans (rk b j h1 h2 h3)) (fun b j h1 h2 h3 => (q b j h1).trans (ro b j h2 h3))
theorem bg_215 (hL : L ≤ 300) (hd : 9 ≤ d) {N : Nat} (hN : N ≤ 12) {hd0 : List Int} (hh : hd0.length ≤ 27) {E : va_W} {ad0 : Nat → Nat} {μ1 : Mem} (h8 : μ1 276 8 = (N : Nat))
    (K : ∀ ad' ms μ' cap, ms.length = N → okM ms → (∀ j, j < 293 ∨ j = 5000 ∨ j = 5005 ∨ 6000 ≤ j → ad' j = ad0 j) → BI (hd0 ++ mtl 0 ms) cap μ' μ' → MR ms μ' → FR μ' μ1 → gl D cy X0 293 ad' E d (kB cap + kr) (sB cap + sr) (mL_begins L xs) PQ PX 382 [.ref 0, .ref 276, .ref 6000, .ref 5000, .null] [] μ') :
    ∀ (i : Nat) (ms : List (Nat × Nat × Nat)) (ad : Nat → Nat) (μ : Mem) (cap : Int), ms.length + i = N → okM ms → (∀ j, j < 293 ∨ j = 5000 ∨ j = 5005 ∨ 6000 ≤ j → ad j = ad0 j) → BI (hd0 ++ mtl 0 ms) cap μ μ → MR ms μ → FR μ μ1 →
      gl D cy X0 293 ad E d (kB cap + (4 * i + kr)) (sB cap + (26 * i + sr)) (mL_begins L xs) PQ PX 215 [.ref 0, .ref 276, .ref 6000, .ref 5000, .int (iI (ms.length : Nat))] [] μ := by
  intro i
  induction i with
  | zero =>
    intro ms ad μ cap hl ho ha hb hm hf
    refine gl_iload (y := mL_begins L xs) (pc := 215) (v := (ms.length : Int)) dL_begins_215 rfl ?_
    refine gl_aload_n (y := mL_begins L xs) (pc := 217) dL_begins_217 rfl rfl ?_
    refine gl_getI (y := mL_begins L xs) (pc := 218) dL_begins_218 fl_L_50 (ow_sh (c := 276) (Or.inl rfl) 0 (by decide)) rfl (by decide) (fun _ => ?_)
    refine gl_top (b := (N : Int)) ((hf 276 8 (by decide) (by decide) (by decide)).trans h8) (fun _ => ?_)
    refine gl_icmp_ge (y := mL_begins L xs) (pc := 221) (tgt := 382) dL_begins_221 (by decide) ⟨by omega, by omega⟩ ⟨by omega, by omega⟩ (fun _ => ?_) (fun h => absurd h (by omega))
    refine gl_null 4 ?_
    refine gl_less (kc' := kB cap + kr) (ks' := sB cap + sr) (by omega) (by omega) ?_
    exact K ad ms μ cap (by omega) ho ha hb hm hf
  | succ i ih =>
    intro ms ad μ cap hl ho ha hb hm hf
    refine gl_iload (y := mL_begins L xs) (pc := 215) (v := (ms.length : Int)) dL_begins_215 rfl ?_
    refine gl_aload_n (y := mL_begins L xs) (pc := 217) dL_begins_217 rfl rfl ?_
    refine gl_getI (y := mL_begins L xs) (pc := 218) dL_begins_218 fl_L_50 (ow_sh (c := 276) (Or.inl rfl) 0 (by decide)) rfl (by decide) (fun _ => ?_)
    refine gl_top (b := (N : Int)) ((hf 276 8 (by decide) (by decide) (by decide)).trans h8) (fun _ => ?_)
    refine gl_icmp_ge (y := mL_begins L xs) (pc := 221) (tgt := 382) dL_begins_221 (by decide) ⟨by omega, by omega⟩ ⟨by omega, by omega⟩ (fun h => absurd h (by omega)) (fun _ => ?_)
    have hlen := mtl_l ms 0
    refine bg_member hL hd (k := ms.length) (by omega) hb (by rw [List.length_append]; omega) (fun ad' w p u μ' cap' hw hp hu hA hB r1 r2 r3 r4 rk ro => ?_)
    have hx := ih (ms ++ [(w, p, u)]) ad' μ' cap' (by rw [List.length_append]; simp only [List.length_cons, List.length_nil]; omega) (fun x hx => (List.mem_append.mp hx).elim (ho x) (fun g => by rw [List.mem_singleton.mp g]; exact ⟨hw, hp, hu⟩)) (fun j hj => (hA j hj).trans (ha j hj)) (by rw [mtl_s, Nat.zero_add, ← List.append_assoc]; exact hB) (MR_s (x := (w, p, u)) hm rk r1 r2 r3 r4) (fun b j h1 h2 h3 => (ro b j h1 h2 h3).trans (hf b j h1 h2 h3))
    rw [List.length_append] at hx
    exact hx
end Mem
