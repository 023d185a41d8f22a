/-! THE CLASS WRITES SPEECHES, CHAIRS, REQUESTS -/
def wSp (S : Mem) (m : Nat) (d : Int) (q : Nat) : List Int := nml 6 (S 1 m) ++ [if d = 1 then 43 else 45] ++ dgl q
def wCh (S s : Mem) (h : Nat) : List Int := if s 16 h = -1 then [46] else wSp S (s 16 h).toNat (s 18 h) (s 17 h).toNat ++ (if s 20 h = 1 then [33] else []) ++ [58] ++ dgl (s 19 h).toNat
def wChs (S s : Mem) : Nat → List Int
  | 0 => []
  | n + 1 => wChs S s n ++ (if 0 < n then [32] else []) ++ wCh S s n
def wRqs (S s : Mem) : Nat → List Int
  | 0 => []
  | n + 1 => wRqs S s n ++ (if 0 < n then [44] else []) ++ wSp S (s 12 n).toNat (s 14 n) (s 13 n).toNat
theorem dgl_le (v : Nat) : (dgl v).length ≤ 2 := by
  rw [dgl_n]
  split <;> omega
theorem wSp_le (S : Mem) (m : Nat) (d : Int) (q : Nat) : (wSp S m d q).length ≤ 9 := by
  unfold wSp
  rw [List.length_append, List.length_append]
  have h1 := nml_len 6 (S 1 m)
  have h2 := dgl_le q
  simp only [List.length_cons, List.length_nil]
  omega
theorem wCh_le (S s : Mem) (h : Nat) : (wCh S s h).length ≤ 13 := by
  unfold wCh
  split
  · decide
  · rw [List.length_append, List.length_append, List.length_append]
    have h1 := wSp_le S (s 16 h).toNat (s 18 h) (s 17 h).toNat
    have h2 := dgl_le (s 19 h).toNat
    have h3 : (if s 20 h = 1 then [(33 : Int)] else []).length ≤ 1 := by split <;> decide
    simp only [List.length_cons, List.length_nil]
    omega
theorem wChs_le (S s : Mem) : ∀ n, (wChs S s n).length ≤ 14 * n
  | 0 => Nat.le_refl 0
  | n + 1 => by
    rw [wChs, List.length_append, List.length_append]
    have h1 := wChs_le S s n
    have h2 := wCh_le S s n
    have h3 : (if 0 < n then [(32 : Int)] else []).length ≤ 1 := by split <;> decide
    omega
theorem wRqs_le (S s : Mem) : ∀ n, (wRqs S s n).length ≤ 10 * n
  | 0 => Nat.le_refl 0
  | n + 1 => by
    rw [wRqs, List.length_append, List.length_append]
    have h1 := wRqs_le S s n
    have h2 := wSp_le S (s 12 n).toNat (s 14 n) (s 13 n).toNat
    have h3 : (if 0 < n then [(44 : Int)] else []).length ≤ 1 := by split <;> decide
    omega
theorem su_eqO {μ' μ : Mem} (h : eqO μ' μ) : su μ' = su μ := su_f (fun b j _ hb => h.1 b j (by omega))
theorem fin_w {l : List Int} {E : Int} {kc ks : Nat} {μ1 μ : Mem} (hB : Bnd l E kc ks μ1) (hc : chn (μ 5002 0)) (h : μ 5002 0 ≤ μ1 5002 0) (hE : E = cpf (μ 5002 0) l.length) : OL l μ1 ∧ μ1 5003 0 = 0 ∧ μ1 5002 0 = E := by
  refine ⟨hB.1, hB.2.1, ?_⟩
  rw [hE]
  refine cpf_min hc hB.2.2.1 h ?_ (by rw [← hE]; exact hB.2.2.2.2.1)
  rw [← hB.1.1]
  exact hB.2.2.2.2.2.2.2
theorem lenp {A w : List Int} {x E : Int} (h : ((A ++ [x] ++ w).length : Int) ≤ E) : (A.length : Int) + 1 ≤ E := by
  rw [List.length_append, List.length_append] at h
  have e : ([x] : List Int).length = 1 := rfl
  omega
theorem lenq {A w : List Int} {x y E : Int} (h : ((A ++ [x] ++ [y] ++ w).length : Int) ≤ E) : (A.length : Int) + 1 ≤ E := by
  rw [List.length_append, List.length_append, List.length_append] at h
  have e : ([x] : List Int).length = 1 := rfl
  omega
section WOut
variable {σ μ : Mem}
set_option maxRecDepth 8000 in
set_option maxHeartbeats 4000000 in
theorem w_speech {m q : Nat} {d E : Int} {l : List Int} {kc ks : Nat} (hm : m < 12) (hx : isn 6 (su μ 1 m)) (hq : q < 16) (hd : d = 1 ∨ d = -1) (hB : Bnd l E kc ks μ) (hn : ((l ++ wSp (su μ) m d q).length : Int) ≤ E) (hE : E = cpf (μ 5002 0) (l ++ wSp (su μ) m d q).length) {Q : Option Value → Mem → Prop} {X : String → Mem → Prop} (K : ∀ μ', OL (l ++ wSp (su μ) m d q) μ' → μ' 5003 0 = 0 → μ' 5002 0 = E → eqO μ' μ → Q none (put 20 σ μ')) : mt 276 7 kc ks mX10_writeSpeech [.ref 0, .int (iI (m : Nat)), .int (iI d), .int (iI (q : Nat))] Q X (put 20 σ μ) := by
  show go 276 7 kc ks mX10_writeSpeech Q X 0 [.ref 0, .int (iI (m : Nat)), .int (iI d), .int (iI (q : Nat))] [] _
  have hE9 := chn_b hB.2.2.2.1
  have hc9 := hB.2.2.1
  unfold wSp at hn hE K
  rw [← List.append_assoc, ← List.append_assoc] at hn hE K
  have n3 := hn
  rw [List.length_append] at n3
  have n2 := n3
  rw [List.length_append] at n2
  obtain ⟨kc1, ks1, kc2, ks2, u1, u2, u3, u4, u5, u6⟩ := bud (w := nml 6 (su μ 1 m)) hB (by omega)
  obtain ⟨c1, c2, c3⟩ := cpf_c (n := ((l ++ nml 6 (su μ 1 m)).length : Nat)) hc9 (by omega)
  refine go_aload_n (y := mX10_writeSpeech) (pc := 0) dX10_writeSpeech_0 rfl rfl ?_
  refine go_getR (y := mX10_writeSpeech) (pc := 1) dX10_writeSpeech_1 fl_X10_35 rfl rfl (by decide) ?_
  refine go_getR (y := mX10_writeSpeech) (pc := 4) dX10_writeSpeech_4 fl_X10_386 rfl rfl (by decide) ?_
  refine go_iload_n (y := mX10_writeSpeech) (pc := 7) dX10_writeSpeech_7 rfl rfl ?_
  refine go_sial (y := mX10_writeSpeech) (pc := 8) (r := 1) (k := m) dX10_writeSpeech_8 h20 (by decide) rfl (by decide) (by omega) (by omega) (by decide) (fun r8 => ?_)
  refine go_top (b := su μ 1 m) (rfl) (fun t8 => ?_)
  refine go_aload_n (y := mX10_writeSpeech) (pc := 9) dX10_writeSpeech_9 rfl rfl ?_
  refine go_getR (y := mX10_writeSpeech) (pc := 10) dX10_writeSpeech_10 fl_X10_72 rfl rfl (by decide) ?_
  refine go_callS2 (y := mX10_writeSpeech) (pc := 13) (y' := mX8_writeName) (kc2 := kc2) (ks2 := ks2) dX10_writeSpeech_13 ml_X10_389 ok_X8_writeName ⟨rfl, rfl⟩ ⟨by decide, by decide, by decide, u1, u2⟩ (Nat.le_of_ble_eq_true rfl) rfl (w_name (kc := kc1) (ks := ks1) hx u5 c3 rfl (fun μ13 o13 z13 c13 e13 => ?_))
  have b13 := u6 μ13 o13 z13 c13
  have J32 : ∀ c : Int, c = (if d = 1 then 43 else 45) → go 276 7 kc2 ks2 mX10_writeSpeech Q X 32 [.ref 0, .int (iI (m : Nat)), .int (iI d), .int (iI (q : Nat))] [.int (iI c), .ref 5000] (put 20 σ μ13) := by
    intro c hc
    have hc2 : 0 ≤ c ∧ c < 128 := by rw [hc]; split <;> decide
    refine go_wC (y := mX10_writeSpeech) (pc := 32) dX10_writeSpeech_32 ml_X10_365 (by decide) (by decide) (Nat.le_of_ble_eq_true rfl) rfl hc2 b13 (lenp hn) (fun μ32 kc32 ks32 b32 e32 f32 => ?_)
    refine go_pop (y := mX10_writeSpeech) (pc := 35) dX10_writeSpeech_35 rfl ?_
    refine go_aload_n (y := mX10_writeSpeech) (pc := 36) dX10_writeSpeech_36 rfl rfl ?_
    refine go_getR (y := mX10_writeSpeech) (pc := 37) dX10_writeSpeech_37 fl_X10_72 rfl rfl (by decide) ?_
    refine go_iload_n (y := mX10_writeSpeech) (pc := 40) dX10_writeSpeech_40 rfl rfl ?_
    refine go_wI (y := mX10_writeSpeech) (pc := 41) dX10_writeSpeech_41 ml_X10_381 (by decide) (by decide) (Nat.le_of_ble_eq_true rfl) rfl (by omega) b32 (by rw [hc]; exact hn) (fun μ41 kc41 ks41 b41 e41 f41 => ?_)
    refine go_pop (y := mX10_writeSpeech) (pc := 44) dX10_writeSpeech_44 rfl ?_
    refine go_return (y := mX10_writeSpeech) (pc := 45) dX10_writeSpeech_45 rfl ?_
    rw [hc] at b41
    obtain ⟨f1, f2, f3⟩ := fin_w b41 hc9 (Int.le_trans (by rw [c13]; exact c2) (Int.le_trans f32 f41)) hE
    exact K μ41 f1 f2 f3 (eqO_t e41 (eqO_t e32 e13))
  refine go_aload_n (y := mX10_writeSpeech) (pc := 16) dX10_writeSpeech_16 rfl rfl ?_
  refine go_getR (y := mX10_writeSpeech) (pc := 17) dX10_writeSpeech_17 fl_X10_72 rfl rfl (by decide) ?_
  refine go_iload_n (y := mX10_writeSpeech) (pc := 20) dX10_writeSpeech_20 rfl rfl ?_
  refine go_iconst (y := mX10_writeSpeech) (pc := 21) dX10_writeSpeech_21 ?_
  refine go_icmp_ne (y := mX10_writeSpeech) (pc := 22) (tgt := 30) dX10_writeSpeech_22 (by decide) (by omega) (by omega) (fun h22 => ?_) (fun h22 => ?_)
  · skip
    refine go_bipush (y := mX10_writeSpeech) (pc := 30) dX10_writeSpeech_30 (by decide) ?_
    exact J32 45 (if_neg (by omega)).symm
  · skip
    refine go_bipush (y := mX10_writeSpeech) (pc := 25) dX10_writeSpeech_25 (by decide) ?_
    refine go_goto (y := mX10_writeSpeech) (pc := 27) (tgt := 32) dX10_writeSpeech_27 (by decide) ?_
    exact J32 43 (if_pos (by omega)).symm
set_option maxRecDepth 8000 in
set_option maxHeartbeats 4000000 in
theorem w_chair {h : Nat} {E : Int} {l : List Int} {kc ks : Nat} (hh : (h : Int) < su μ 0 0) (hS : wfS (su μ)) (hC : wfC (su μ) σ) (hN : ∀ m : Nat, (m : Int) < su μ 0 7 → isn 6 (su μ 1 m)) (hB : Bnd l E kc ks μ) (hn : ((l ++ wCh (su μ) σ h).length : Int) ≤ E) (hE : E = cpf (μ 5002 0) (l ++ wCh (su μ) σ h).length) {Q : Option Value → Mem → Prop} {X : String → Mem → Prop} (K : ∀ μ', OL (l ++ wCh (su μ) σ h) μ' → μ' 5003 0 = 0 → μ' 5002 0 = E → eqO μ' μ → Q none (put 20 σ μ')) : mt 276 8 kc ks mX10_writeChair [.ref 0, .int (iI (h : Nat))] Q X (put 20 σ μ) := by
  show go 276 8 kc ks mX10_writeChair Q X 0 [.ref 0, .int (iI (h : Nat)), .null] [] _
  obtain ⟨n1, n12, c1, c4⟩ := wf_n hS
  obtain ⟨q0, q16, r0, r12⟩ := wf_r hS hC
  have hE9 := chn_b hB.2.2.2.1
  have hc9 := hB.2.2.1
  have hh4 : h < 4 := by omega
  unfold wCh at hn hE K
  refine go_aload_n (y := mX10_writeChair) (pc := 0) dX10_writeChair_0 rfl rfl ?_
  refine go_getR (y := mX10_writeChair) (pc := 1) dX10_writeChair_1 fl_X10_47 rfl rfl (by decide) ?_
  refine go_getR (y := mX10_writeChair) (pc := 4) dX10_writeChair_4 fl_X10_200 (ch_sh h20 0 (by decide)) rfl (ch_z (r := 0) h20 (by decide)) ?_
  refine go_astore_n (y := mX10_writeChair) (pc := 7) dX10_writeChair_7 rfl (by decide) ?_
  refine go_aload_n (y := mX10_writeChair) (pc := 8) dX10_writeChair_8 rfl rfl ?_
  refine go_iload_n (y := mX10_writeChair) (pc := 9) dX10_writeChair_9 rfl rfl ?_
  refine go_callV1 (y := mX10_writeChair) (pc := 10) (y' := mX0_isFree) (kc2 := kc) (ks2 := ks) dX10_writeChair_10 ml_X10_262 ok_X0_isFree (ch_sh h20 15 (by decide)) ⟨_, _, rfl⟩ (ch_z (r := 15) h20 (by decide)) rfl ⟨by decide, by decide, by decide, by omega, by omega⟩ (Nat.le_of_ble_eq_true rfl) rfl (c_isFree h20 (h := h) (by omega) (fun v10 e10 b10 => ?_))
  refine go_if_eq (y := mX10_writeChair) (pc := 13) (tgt := 27) dX10_writeChair_13 (by decide) (by omega) (fun h13 => ?_) (fun h13 => ?_)
  · skip
    have g := bI_0 e10 h13
    rw [if_neg g] at hn hE K
    have hch := hC.2.2.2.2.2 h hh4
    have hr : (h : Int) < su μ 0 0 ∧ 0 ≤ σ 16 h ∧ σ 16 h < su μ 0 7 ∧ 0 ≤ σ 17 h ∧ σ 17 h < σ 5 0 ∧ (σ 18 h = 1 ∨ σ 18 h = -1) ∧ 1 ≤ σ 19 h ∧ σ 19 h ≤ 20 ∧ 0 ≤ σ 20 h ∧ σ 20 h ≤ 1 := hch.elim (fun w => absurd w.1 g) id
    obtain ⟨m, em⟩ := Int.eq_ofNat_of_zero_le hr.2.1
    obtain ⟨q, eq⟩ := Int.eq_ofNat_of_zero_le hr.2.2.2.1
    obtain ⟨v, ev⟩ := Int.eq_ofNat_of_zero_le (show 0 ≤ σ 19 h by omega)
    rw [em, eq, ev, Int.toNat_natCast, Int.toNat_natCast, Int.toNat_natCast] at hn hE K
    rw [← List.append_assoc, ← List.append_assoc, ← List.append_assoc] at hn hE K
    have n4 := hn
    rw [List.length_append] at n4
    have n3 := n4
    rw [List.length_append] at n3
    have n2 := n3
    rw [List.length_append] at n2
    obtain ⟨kc1, ks1, kc2, ks2, u1, u2, u3, u4, u5, u6⟩ := bud (w := wSp (su μ) m (σ 18 h) q) hB (by omega)
    obtain ⟨d1, d2, d3⟩ := cpf_c (n := ((l ++ wSp (su μ) m (σ 18 h) q).length : Nat)) hc9 (by omega)
    refine go_aload_n (y := mX10_writeChair) (pc := 27) dX10_writeChair_27 rfl rfl ?_
    refine go_aload_n (y := mX10_writeChair) (pc := 28) dX10_writeChair_28 rfl rfl ?_
    refine go_getR (y := mX10_writeChair) (pc := 29) dX10_writeChair_29 fl_X10_259 (ch_sh h20 15 (by decide)) rfl (ch_z (r := 15) h20 (by decide)) ?_
    refine go_iload_n (y := mX10_writeChair) (pc := 32) dX10_writeChair_32 rfl rfl ?_
    refine go_cial (y := mX10_writeChair) (pc := 33) (r := 16) (k := h) dX10_writeChair_33 h20 (by decide) rfl (by decide) rfl (by omega) (by decide) (fun r33 => ?_)
    refine go_top (b := ((m : Nat) : Int)) (em) (fun t33 => ?_)
    refine go_aload_n (y := mX10_writeChair) (pc := 34) dX10_writeChair_34 rfl rfl ?_
    refine go_getR (y := mX10_writeChair) (pc := 35) dX10_writeChair_35 fl_X10_374 (ch_sh h20 15 (by decide)) rfl (ch_z (r := 15) h20 (by decide)) ?_
    refine go_iload_n (y := mX10_writeChair) (pc := 38) dX10_writeChair_38 rfl rfl ?_
    refine go_cial (y := mX10_writeChair) (pc := 39) (r := 18) (k := h) dX10_writeChair_39 h20 (by decide) rfl (by decide) rfl (by omega) (by decide) (fun r39 => ?_)
    refine go_top (b := σ 18 h) (rfl) (fun t39 => ?_)
    refine go_aload_n (y := mX10_writeChair) (pc := 40) dX10_writeChair_40 rfl rfl ?_
    refine go_getR (y := mX10_writeChair) (pc := 41) dX10_writeChair_41 fl_X10_271 (ch_sh h20 15 (by decide)) rfl (ch_z (r := 15) h20 (by decide)) ?_
    refine go_iload_n (y := mX10_writeChair) (pc := 44) dX10_writeChair_44 rfl rfl ?_
    refine go_cial (y := mX10_writeChair) (pc := 45) (r := 17) (k := h) dX10_writeChair_45 h20 (by decide) rfl (by decide) rfl (by omega) (by decide) (fun r45 => ?_)
    refine go_top (b := ((q : Nat) : Int)) (eq) (fun t45 => ?_)
    refine go_callV3 (y := mX10_writeChair) (pc := 46) (y' := mX10_writeSpeech) (kc2 := kc2) (ks2 := ks2) dX10_writeChair_46 ml_X10_377 ok_X10_writeSpeech (show shp 0 = _ from rfl) ⟨_, _, rfl⟩ (by decide) ⟨rfl, rfl, rfl⟩ ⟨by decide, by decide, by decide, u1, u2⟩ (Nat.le_of_ble_eq_true rfl) rfl (w_speech (kc := kc1) (ks := ks1) (by omega) (hN m (by omega)) (by omega) hr.2.2.2.2.2.1 u5 d3 rfl (fun μ46 o46 z46 c46 e46 => ?_))
    have b46 := u6 μ46 o46 z46 c46
    have J67 : ∀ (μ1 : Mem) (kc3 ks3 : Nat), Bnd (l ++ wSp (su μ) m (σ 18 h) q ++ (if σ 20 h = 1 then [33] else [])) E kc3 ks3 μ1 → eqO μ1 μ → μ 5002 0 ≤ μ1 5002 0 → go 276 8 kc3 ks3 mX10_writeChair Q X 67 [.ref 0, .int (iI (h : Nat)), .ref 35] [] (put 20 σ μ1) := by
      intro μ1 kc3 ks3 h1 h2 h3
      refine go_aload_n (y := mX10_writeChair) (pc := 67) dX10_writeChair_67 rfl rfl ?_
      refine go_getR (y := mX10_writeChair) (pc := 68) dX10_writeChair_68 fl_X10_72 rfl rfl (by decide) ?_
      refine go_bipush (y := mX10_writeChair) (pc := 71) dX10_writeChair_71 (by decide) ?_
      refine go_wC (y := mX10_writeChair) (pc := 73) dX10_writeChair_73 ml_X10_365 (by decide) (by decide) (Nat.le_of_ble_eq_true rfl) rfl (by decide) h1 (lenp hn) (fun μ73 kc73 ks73 b73 e73 f73 => ?_)
      refine go_pop (y := mX10_writeChair) (pc := 76) dX10_writeChair_76 rfl ?_
      refine go_aload_n (y := mX10_writeChair) (pc := 77) dX10_writeChair_77 rfl rfl ?_
      refine go_getR (y := mX10_writeChair) (pc := 78) dX10_writeChair_78 fl_X10_72 rfl rfl (by decide) ?_
      refine go_aload_n (y := mX10_writeChair) (pc := 81) dX10_writeChair_81 rfl rfl ?_
      refine go_getR (y := mX10_writeChair) (pc := 82) dX10_writeChair_82 fl_X10_274 (ch_sh h20 15 (by decide)) rfl (ch_z (r := 15) h20 (by decide)) ?_
      refine go_iload_n (y := mX10_writeChair) (pc := 85) dX10_writeChair_85 rfl rfl ?_
      refine go_cial (y := mX10_writeChair) (pc := 86) (r := 19) (k := h) dX10_writeChair_86 h20 (by decide) rfl (by decide) rfl (by omega) (by decide) (fun r86 => ?_)
      refine go_top (b := ((v : Nat) : Int)) (ev) (fun t86 => ?_)
      refine go_wI (y := mX10_writeChair) (pc := 87) dX10_writeChair_87 ml_X10_381 (by decide) (by decide) (Nat.le_of_ble_eq_true rfl) rfl (by omega) b73 hn (fun μ87 kc87 ks87 b87 e87 f87 => ?_)
      refine go_pop (y := mX10_writeChair) (pc := 90) dX10_writeChair_90 rfl ?_
      refine go_return (y := mX10_writeChair) (pc := 91) dX10_writeChair_91 rfl ?_
      obtain ⟨f1, f2, f3⟩ := fin_w b87 hc9 (Int.le_trans h3 (Int.le_trans f73 f87)) hE
      exact K μ87 f1 f2 f3 (eqO_t e87 (eqO_t e73 h2))
    refine go_aload_n (y := mX10_writeChair) (pc := 49) dX10_writeChair_49 rfl rfl ?_
    refine go_iload_n (y := mX10_writeChair) (pc := 50) dX10_writeChair_50 rfl rfl ?_
    refine go_callV1 (y := mX10_writeChair) (pc := 51) (y' := mX0_isRebuttedAt) (kc2 := kc2) (ks2 := ks2) dX10_writeChair_51 ml_X10_277 ok_X0_isRebuttedAt (ch_sh h20 15 (by decide)) ⟨_, _, rfl⟩ (ch_z (r := 15) h20 (by decide)) rfl ⟨by decide, by decide, by decide, by omega, by omega⟩ (Nat.le_of_ble_eq_true rfl) rfl (c_isReb h20 (h := h) (by omega) (fun v51 e51 b51 => ?_))
    refine go_if_eq (y := mX10_writeChair) (pc := 54) (tgt := 67) dX10_writeChair_54 (by decide) (by omega) (fun h54 => ?_) (fun h54 => ?_)
    · skip
      have g2 := bI_0 e51 h54
      refine J67 μ46 kc2 ks2 ?_ e46 (by rw [c46]; exact d2)
      rw [if_neg (show ¬ σ 20 h = 1 by omega), List.append_nil]
      exact b46
    · skip
      have g2 := bI_1 e51 h54
      refine go_aload_n (y := mX10_writeChair) (pc := 57) dX10_writeChair_57 rfl rfl ?_
      refine go_getR (y := mX10_writeChair) (pc := 58) dX10_writeChair_58 fl_X10_72 rfl rfl (by decide) ?_
      refine go_bipush (y := mX10_writeChair) (pc := 61) dX10_writeChair_61 (by decide) ?_
      refine go_wC (y := mX10_writeChair) (pc := 63) dX10_writeChair_63 ml_X10_365 (by decide) (by decide) (Nat.le_of_ble_eq_true rfl) rfl (by decide) b46 (by have g2 := bI_1 e51 h54; rw [if_pos (show σ 20 h = 1 by omega)] at hn; exact lenq hn) (fun μ63 kc63 ks63 b63 e63 f63 => ?_)
      refine go_pop (y := mX10_writeChair) (pc := 66) dX10_writeChair_66 rfl ?_
      refine J67 μ63 kc63 ks63 ?_ (eqO_t e63 e46) (Int.le_trans (by rw [c46]; exact d2) f63)
      rw [if_pos (show σ 20 h = 1 by omega)]
      exact b63
  · skip
    have g := bI_1 e10 h13
    rw [if_pos g] at hn hE K
    refine go_aload_n (y := mX10_writeChair) (pc := 16) dX10_writeChair_16 rfl rfl ?_
    refine go_getR (y := mX10_writeChair) (pc := 17) dX10_writeChair_17 fl_X10_72 rfl rfl (by decide) ?_
    refine go_bipush (y := mX10_writeChair) (pc := 20) dX10_writeChair_20 (by decide) ?_
    refine go_wC (y := mX10_writeChair) (pc := 22) dX10_writeChair_22 ml_X10_365 (by decide) (by decide) (Nat.le_of_ble_eq_true rfl) rfl (by decide) hB (by rw [List.length_append] at hn; simp only [List.length_cons, List.length_nil] at hn; omega) (fun μ22 kc22 ks22 b22 e22 f22 => ?_)
    refine go_pop (y := mX10_writeChair) (pc := 25) dX10_writeChair_25 rfl ?_
    refine go_return (y := mX10_writeChair) (pc := 26) dX10_writeChair_26 rfl ?_
    obtain ⟨f1, f2, f3⟩ := fin_w b22 hc9 f22 hE
    exact K μ22 f1 f2 f3 e22
end WOut
