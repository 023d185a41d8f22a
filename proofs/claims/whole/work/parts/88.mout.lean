/-! THE CLASS'S OUTPUT READ; THE MODEL WRITES -/
section OByte
variable {μ : Mem}
set_option maxRecDepth 8000 in
set_option maxHeartbeats 4000000 in
theorem g_outputByte {i : Int} {l : List Int} (hi : rng i) (hO : OL l μ) (h3 : μ 5003 0 = 0) (hf : μ 5000 0 ≤ μ 5002 0) (hch : chn (μ 5002 0)) (hb : ∀ c ∈ l, 0 ≤ c ∧ c < 128) {Q : Option Value → Mem → Prop} {X : String → Mem → Prop} (K : ∀ (k : Nat) (c : Int), i = k → l[k]? = some c → Q (some (.int (iI c))) μ) (K2 : i < 0 ∨ (l.length : Int) ≤ i → Q (some (.int (iI (-1)))) μ) : mt 276 5 0 0 mX10_outputByte [.ref 0, .int (iI i)] Q X μ := by
  show go 276 5 0 0 mX10_outputByte Q X 0 [.ref 0, .int (iI i)] [] _
  have hL := hO.1
  have hc := chn_b hch
  refine go_iload_n (y := mX10_outputByte) (pc := 0) dX10_outputByte_0 rfl rfl ?_
  refine go_if_lt (y := mX10_outputByte) (pc := 1) (tgt := 26) dX10_outputByte_1 (by decide) (by omega) (fun h1 => ?_) (fun h1 => ?_)
  · skip
    refine go_iconst (y := mX10_outputByte) (pc := 26) dX10_outputByte_26 ?_
    refine go_ireturn (y := mX10_outputByte) (pc := 27) dX10_outputByte_27 rfl ?_
    exact K2 (Or.inl h1)
  · skip
    refine go_iload_n (y := mX10_outputByte) (pc := 4) dX10_outputByte_4 rfl rfl ?_
    refine go_aload_n (y := mX10_outputByte) (pc := 5) dX10_outputByte_5 rfl rfl ?_
    refine go_getR (y := mX10_outputByte) (pc := 6) dX10_outputByte_6 fl_X10_72 rfl rfl (by decide) ?_
    refine go_callO (y := mX10_outputByte) (pc := 9) (y' := mJ4_length_8abf5) (as := []) (kc2 := 0) (ks2 := 0) dX10_outputByte_9 rfl ml_X10_372 ok2_J4_length_8abf5 se_J4_length_8abf5 (by decide) rfl (Nat.le_of_ble_eq_true rfl) (by intro v hv; simp only [List.mem_cons, List.not_mem_nil, or_false] at hv) (Nat.le_of_ble_eq_true rfl) (Nat.le_refl _) (by decide) (by decide) (by decide) rfl (sb_len ?_)
    refine go_icmp_ge (y := mX10_outputByte) (pc := 12) (tgt := 26) dX10_outputByte_12 (by decide) (by omega) (by omega) (fun h12 => ?_) (fun h12 => ?_)
    · skip
      refine go_iconst (y := mX10_outputByte) (pc := 26) dX10_outputByte_26 ?_
      refine go_ireturn (y := mX10_outputByte) (pc := 27) dX10_outputByte_27 rfl ?_
      exact K2 (Or.inr (by omega))
    · skip
      obtain ⟨k, ek⟩ := Int.eq_ofNat_of_zero_le (show 0 ≤ i by omega)
      have hk : k < l.length := by omega
      have hg : l[k]? = some l[k] := List.getElem?_eq_getElem hk
      have h9 := hb l[k] (List.getElem_mem hk)
      have hm := hO.2 k l[k] hg
      refine go_aload_n (y := mX10_outputByte) (pc := 15) dX10_outputByte_15 rfl rfl ?_
      refine go_getR (y := mX10_outputByte) (pc := 16) dX10_outputByte_16 fl_X10_72 rfl rfl (by decide) ?_
      refine go_iload_n (y := mX10_outputByte) (pc := 19) dX10_outputByte_19 rfl rfl ?_
      refine go_top (b := ((k : Nat) : Int)) (ek) (fun t19 => ?_)
      refine go_callO (y := mX10_outputByte) (pc := 20) (y' := mJ4_charAt_5068e) (as := [.int (iI (k : Nat))]) (kc2 := 0) (ks2 := 0) dX10_outputByte_20 rfl ml_X10_393 ok2_J4_charAt_5068e se_J4_charAt_5068e (by decide) rfl (Nat.le_of_ble_eq_true rfl) (by intro v hv; simp only [List.mem_cons, List.not_mem_nil, or_false] at hv; rw [hv]; rfl) (Nat.le_of_ble_eq_true rfl) (Nat.le_refl _) (by decide) (by decide) (by decide) rfl (sb_charAt h3 (by omega) hf hch (by rw [hm]; exact h9) ?_)
      refine go_goto (y := mX10_outputByte) (pc := 23) (tgt := 27) dX10_outputByte_23 (by decide) ?_
      refine go_ireturn (y := mX10_outputByte) (pc := 27) dX10_outputByte_27 rfl ?_
      rw [hm]
      exact K k l[k] ek hg
end OByte
/-- the model's output holds these letters -/
def OM (l : List Int) (σ : Mem) : Prop := σ 0 26 = (l.length : Nat) ∧ ∀ (j : Nat) (c : Int), l[j]? = some c → σ 12 j = c
/-- all but the model's output is the same -/
def smW (σ' σ : Mem) : Prop := ∀ r j : Nat, r ≠ 12 → (r ≠ 0 ∨ j ≠ 26) → σ' r j = σ r j
theorem smW_t {a b c : Mem} (h : smW a b) (g : smW b c) : smW a c := fun r j w w2 => (h r j w w2).trans (g r j w w2)
theorem smW_r (σ : Mem) : smW σ σ := fun _ _ _ _ => rfl
section MOut
variable {S s σ μ : Mem} {ν : Nat → Int} {l : List Int}
set_option maxRecDepth 8000 in
set_option maxHeartbeats 4000000 in
theorem m_writes {c : Int} (hc : rng c) (hO : OM l σ) (hn : l.length < 300) {Q : Option Value → Mem → Prop} {X : String → Mem → Prop} (K : ∀ σ', OM (l ++ [c]) σ' → smW σ' σ → Q none (md σ' ν μ)) : mt 289 0 0 0 mX11_writes [.ref 276, .int (iI c)] Q X (md σ ν μ) := by
  show go 289 0 0 0 mX11_writes Q X 0 [.ref 276, .int (iI c)] [] _
  refine go_aload_n (y := mX11_writes) (pc := 0) dX11_writes_0 rfl rfl ?_
  refine go_mref (y := mX11_writes) (pc := 1) dX11_writes_1 fl_X11_48 rfl rfl (by decide) ?_
  refine go_aload_n (y := mX11_writes) (pc := 4) dX11_writes_4 rfl rfl ?_
  refine go_mget (y := mX11_writes) (pc := 5) dX11_writes_5 fl_X11_400 rfl rfl (by decide) (fun r5 => ?_)
  refine go_top (b := ((l.length : Nat) : Int)) (hO.1) (fun t5 => ?_)
  refine go_iload_n (y := mX11_writes) (pc := 8) dX11_writes_8 rfl rfl ?_
  refine go_mias (y := mX11_writes) (pc := 9) (r := 12) (k := l.length) dX11_writes_9 (by decide) (by decide) rfl (by decide) rfl (by omega) (by decide) (by omega) ?_
  refine go_aload_n (y := mX11_writes) (pc := 10) dX11_writes_10 rfl rfl ?_
  refine go_dup (y := mX11_writes) (pc := 11) dX11_writes_11 rfl ?_
  refine go_mget (y := mX11_writes) (pc := 12) dX11_writes_12 fl_X11_400 rfl rfl (by decide) (fun r12 => ?_)
  refine go_top (b := ((l.length : Nat) : Int)) ((by rw [wr_na (by decide)]; exact hO.1)) (fun t12 => ?_)
  refine go_iconst (y := mX11_writes) (pc := 15) dX11_writes_15 ?_
  refine go_iadd (y := mX11_writes) (pc := 16) dX11_writes_16 ?_
  refine go_mput (y := mX11_writes) (pc := 17) dX11_writes_17 fp_X11_400 rfl rfl (by decide) (by omega) ?_
  refine go_return (y := mX11_writes) (pc := 20) dX11_writes_20 rfl ?_
  refine K _ ⟨?_, fun j x hj => ?_⟩ (fun r j h1 h2 => by rw [wr_n (by omega), wr_na (by omega)])
  · rw [wr_s, List.length_append]
    show _ = ((l.length + 1 : Nat) : Int)
    omega
  · rw [wr_na (by decide)]
    by_cases g : j < l.length
    · rw [List.getElem?_append_left g] at hj
      rw [wr_ni (by omega)]
      exact hO.2 j x hj
    · rw [List.getElem?_append_right (by omega)] at hj
      have g1 : j - l.length = 0 := by
        have := (List.getElem?_eq_some_iff.mp hj).1
        simp only [List.length_cons, List.length_nil] at this
        omega
      rw [g1] at hj
      have e2 : c = x := by injection hj
      rw [show j = l.length by omega, wr_s]
      exact e2
set_option maxRecDepth 8000 in
set_option maxHeartbeats 4000000 in
theorem m_writesNumber {v : Nat} (hv : v < 100) (hO : OM l σ) (hn : l.length < 290) {Q : Option Value → Mem → Prop} {X : String → Mem → Prop} (K : ∀ σ', OM (l ++ dgl v) σ' → smW σ' σ → Q none (md σ' ν μ)) : mt 289 1 0 0 mX11_writesNumber [.ref 276, .int (iI (v : Nat))] Q X (md σ ν μ) := by
  show go 289 1 0 0 mX11_writesNumber Q X 0 [.ref 276, .int (iI (v : Nat))] [] _
  refine go_iload_n (y := mX11_writesNumber) (pc := 0) dX11_writesNumber_0 rfl rfl ?_
  refine go_bipush (y := mX11_writesNumber) (pc := 1) dX11_writesNumber_1 (by decide) ?_
  refine go_icmp_le (y := mX11_writesNumber) (pc := 3) (tgt := 17) dX11_writesNumber_3 (by decide) (by omega) (by omega) (fun h3 => ?_) (fun h3 => ?_)
  · skip
    refine go_aload_n (y := mX11_writesNumber) (pc := 17) dX11_writesNumber_17 rfl rfl ?_
    refine go_bipush (y := mX11_writesNumber) (pc := 18) dX11_writesNumber_18 (by decide) ?_
    refine go_iload_n (y := mX11_writesNumber) (pc := 20) dX11_writesNumber_20 rfl rfl ?_
    refine go_bipush (y := mX11_writesNumber) (pc := 21) dX11_writesNumber_21 (by decide) ?_
    refine go_irem (y := mX11_writesNumber) (pc := 23) dX11_writesNumber_23 (by omega) (by omega) (by omega) ?_
    refine go_iadd (y := mX11_writesNumber) (pc := 24) dX11_writesNumber_24 ?_
    refine go_top (b := 48 + ((v % 10 : Nat) : Int)) ((by rw [Int.tdiv_eq_ediv_of_nonneg (by omega)]; omega)) (fun t24 => ?_)
    refine go_callV1 (y := mX11_writesNumber) (pc := 25) (y' := mX11_writes) (kc2 := 0) (ks2 := 0) dX11_writesNumber_25 ml_X11_403 ok_X11_writes (show shp 276 = _ from rfl) ⟨_, _, rfl⟩ (by decide) rfl (by decide) (Nat.le_of_ble_eq_true rfl) rfl (m_writes (by unfold rng; omega) hO (by omega) (fun σ25 o25 w25 => ?_))
    refine go_return (y := mX11_writesNumber) (pc := 28) dX11_writesNumber_28 rfl ?_
    rw [dgl_1 (by omega)] at K
    rw [show ((v % 10 : Nat) : Int) = (v : Int) by omega] at o25
    exact K σ25 o25 w25
  · skip
    refine go_aload_n (y := mX11_writesNumber) (pc := 6) dX11_writesNumber_6 rfl rfl ?_
    refine go_bipush (y := mX11_writesNumber) (pc := 7) dX11_writesNumber_7 (by decide) ?_
    refine go_iload_n (y := mX11_writesNumber) (pc := 9) dX11_writesNumber_9 rfl rfl ?_
    refine go_bipush (y := mX11_writesNumber) (pc := 10) dX11_writesNumber_10 (by decide) ?_
    refine go_idiv (y := mX11_writesNumber) (pc := 12) dX11_writesNumber_12 (by omega) (by omega) (by omega) ?_
    refine go_iadd (y := mX11_writesNumber) (pc := 13) dX11_writesNumber_13 ?_
    refine go_top (b := 48 + ((v / 10 : Nat) : Int)) ((by rw [Int.tdiv_eq_ediv_of_nonneg (by omega)]; omega)) (fun t13 => ?_)
    refine go_callV1 (y := mX11_writesNumber) (pc := 14) (y' := mX11_writes) (kc2 := 0) (ks2 := 0) dX11_writesNumber_14 ml_X11_403 ok_X11_writes (show shp 276 = _ from rfl) ⟨_, _, rfl⟩ (by decide) rfl (by decide) (Nat.le_of_ble_eq_true rfl) rfl (m_writes (by unfold rng; omega) hO (by omega) (fun σ14 o14 w14 => ?_))
    refine go_aload_n (y := mX11_writesNumber) (pc := 17) dX11_writesNumber_17 rfl rfl ?_
    refine go_bipush (y := mX11_writesNumber) (pc := 18) dX11_writesNumber_18 (by decide) ?_
    refine go_iload_n (y := mX11_writesNumber) (pc := 20) dX11_writesNumber_20 rfl rfl ?_
    refine go_bipush (y := mX11_writesNumber) (pc := 21) dX11_writesNumber_21 (by decide) ?_
    refine go_irem (y := mX11_writesNumber) (pc := 23) dX11_writesNumber_23 (by omega) (by omega) (by omega) ?_
    refine go_iadd (y := mX11_writesNumber) (pc := 24) dX11_writesNumber_24 ?_
    refine go_top (b := 48 + ((v % 10 : Nat) : Int)) ((by rw [Int.tdiv_eq_ediv_of_nonneg (by omega)]; omega)) (fun t24 => ?_)
    refine go_callV1 (y := mX11_writesNumber) (pc := 25) (y' := mX11_writes) (kc2 := 0) (ks2 := 0) dX11_writesNumber_25 ml_X11_403 ok_X11_writes (show shp 276 = _ from rfl) ⟨_, _, rfl⟩ (by decide) rfl (by decide) (Nat.le_of_ble_eq_true rfl) rfl (m_writes (by unfold rng; omega) o14 (by rw [List.length_append]; simp only [List.length_cons, List.length_nil]; omega) (fun σ25 o25 w25 => ?_))
    refine go_return (y := mX11_writesNumber) (pc := 28) dX11_writesNumber_28 rfl ?_
    rw [dgl_2 (by omega)] at K
    rw [List.append_assoc] at o25
    exact K σ25 o25 (smW_t w25 w14)
/-! letters of a name, base 27 -/
def ml27 : Nat → Int → List Int
  | 0, _ => []
  | k + 1, x => ml27 k (x / 27) ++ [96 + x % 27]
theorem nml_0 : ∀ k, nml k 0 = []
  | 0 => rfl
  | k + 1 => if_pos rfl
theorem nk_ml : ∀ (k : Nat) (x : Int), isn k x → 0 < x → ∃ d : Nat, d < k ∧ (27 : Int) ^ d ≤ nk k x ∧ nk k x < 27 * (27 : Int) ^ d ∧ ml27 (d + 1) (nk k x) = nml k x
  | 0, x, h, h0 => by
    have h9 : x = 0 := h
    omega
  | k + 1, x, h, h0 => by
    rcases h with h | ⟨h1, h2, h3, h4⟩
    · omega
    · by_cases q : x / 32 = 0
      · refine ⟨0, by omega, ?_, ?_, ?_⟩
        · rw [nk, q, nk_0]
          show 1 ≤ _
          omega
        · rw [nk, q, nk_0]
          show _ < 27 * 1
          omega
        · rw [nk, nml, if_neg (by omega), q, nk_0, nml_0, ml27, ml27]
          congr 2
          omega
      · have q0 := isn_ge k _ h4
        obtain ⟨d, d1, d2, d3, d4⟩ := nk_ml k (x / 32) h4 (by omega)
        have p := Int.pow_succ (27 : Int) d
        refine ⟨d + 1, by omega, ?_, ?_, ?_⟩
        · rw [p, nk]
          omega
        · rw [p, nk]
          omega
        · rw [ml27, nk, nml, if_neg (by omega), show (27 * nk k (x / 32) + x % 32) / 27 = nk k (x / 32) by omega, show (27 * nk k (x / 32) + x % 32) % 27 = x % 32 by omega, d4]
set_option maxRecDepth 8000 in
set_option maxHeartbeats 4000000 in
theorem m_writesName {m : Nat} (hm : (m : Int) < S 0 7) (hm12 : m < 12) (hr : rel S s ν) (hx : isn 6 (S 1 m)) (h0 : 0 < S 1 m) (hO : OM l σ) (hn : l.length < 290) {Q : Option Value → Mem → Prop} {X : String → Mem → Prop} (K : ∀ σ', OM (l ++ nml 6 (S 1 m)) σ' → smW σ' σ → Q none (md σ' ν μ)) : mt 289 2 0 0 mX11_writesName [.ref 276, .int (iI (m : Nat))] Q X (md σ ν μ) := by
  show go 289 2 0 0 mX11_writesName Q X 0 [.ref 276, .int (iI (m : Nat)), .null, .null, .null] [] _
  obtain ⟨d, d1, d2, d3, d4⟩ := nk_ml 6 _ hx h0
  obtain ⟨N, eN⟩ : ∃ N, N = nk 6 (S 1 m) := ⟨_, rfl⟩
  rw [← eN] at d2 d3 d4
  have hd6 : d = 0 ∨ d = 1 ∨ d = 2 ∨ d = 3 ∨ d = 4 ∨ d = 5 := by omega
  rcases hd6 with rfl | rfl | rfl | rfl | rfl | rfl
  · skip
    have d2 : 1 ≤ N := d2
    have d3 : N < 27 := d3
    have rN : rng N := by unfold rng; omega
    have eL : l ++ nml 6 (S 1 m) = l ++ [96 + N % 27] := by
      rw [← d4]
      simp only [ml27, List.nil_append, List.append_assoc]
    rw [eL] at K
    refine go_aload_n (y := mX11_writesName) (pc := 0) dX11_writesName_0 rfl rfl ?_
    refine go_iload_n (y := mX11_writesName) (pc := 1) dX11_writesName_1 rfl rfl ?_
    refine go_iconst (y := mX11_writesName) (pc := 2) dX11_writesName_2 ?_
    refine go_callV2 (y := mX11_writesName) (pc := 3) (y' := mX11_of) (kc2 := 0) (ks2 := 0) dX11_writesName_3 ml_X11_100 ok_X11_of (show shp 276 = _ from rfl) ⟨_, _, rfl⟩ (by decide) ⟨rfl, rfl⟩ (by decide) (Nat.le_of_ble_eq_true rfl) rfl (m_of (m := m) (w := 0) (by omega) (by decide) (fun v3 e3 r3 => ?_))
    have e9 : v3 = N := by rw [e3, eN]; exact rlN hr hm
    rw [e9]
    refine go_istore_n (y := mX11_writesName) (pc := 6) dX11_writesName_6 rfl (by decide) ?_
    refine go_iconst (y := mX11_writesName) (pc := 7) dX11_writesName_7 ?_
    refine go_istore_n (y := mX11_writesName) (pc := 8) dX11_writesName_8 rfl (by decide) ?_
    refine go_iload_n (y := mX11_writesName) (pc := 9) dX11_writesName_9 rfl rfl ?_
    refine go_iload_n (y := mX11_writesName) (pc := 10) dX11_writesName_10 rfl rfl ?_
    refine go_bipush (y := mX11_writesName) (pc := 11) dX11_writesName_11 (by decide) ?_
    refine go_idiv (y := mX11_writesName) (pc := 13) dX11_writesName_13 (by omega) (by omega) (by omega) ?_
    refine go_top (b := N / 27) ((Int.tdiv_eq_ediv_of_nonneg (by omega))) (fun t13 => ?_)
    refine go_icmp_gt (y := mX11_writesName) (pc := 14) (tgt := 25) dX11_writesName_14 (by decide) (by omega) (by omega) (fun h14 => ?_) (fun h14 => ?_)
    · skip
      skip
      refine go_iload_n (y := mX11_writesName) (pc := 25) dX11_writesName_25 rfl rfl ?_
      refine go_istore (y := mX11_writesName) (pc := 26) dX11_writesName_26 (by decide) ?_
      refine go_iload (y := mX11_writesName) (pc := 28) dX11_writesName_28 rfl ?_
      refine go_if_le (y := mX11_writesName) (pc := 30) (tgt := 57) dX11_writesName_30 (by decide) (by omega) (fun h30 => ?_) (fun h30 => ?_)
      · skip
        exact absurd h30 (by omega)
      · skip
        refine go_aload_n (y := mX11_writesName) (pc := 33) dX11_writesName_33 rfl rfl ?_
        refine go_bipush (y := mX11_writesName) (pc := 34) dX11_writesName_34 (by decide) ?_
        refine go_iload_n (y := mX11_writesName) (pc := 36) dX11_writesName_36 rfl rfl ?_
        refine go_iload (y := mX11_writesName) (pc := 37) dX11_writesName_37 rfl ?_
        refine go_idiv (y := mX11_writesName) (pc := 39) dX11_writesName_39 (by omega) (by omega) (by omega) ?_
        refine go_top (b := N) ((by rw [Int.tdiv_eq_ediv_of_nonneg (by omega)]; omega)) (fun t39 => ?_)
        refine go_bipush (y := mX11_writesName) (pc := 40) dX11_writesName_40 (by decide) ?_
        refine go_irem (y := mX11_writesName) (pc := 42) dX11_writesName_42 (by omega) (by omega) (by omega) ?_
        skip
        refine go_iadd (y := mX11_writesName) (pc := 43) dX11_writesName_43 ?_
        refine go_top (b := 96 + N % 27) ((by rw [Int.tdiv_eq_ediv_of_nonneg (by omega)]; omega)) (fun t43 => ?_)
        refine go_callV1 (y := mX11_writesName) (pc := 44) (y' := mX11_writes) (kc2 := 0) (ks2 := 0) dX11_writesName_44 ml_X11_403 ok_X11_writes (show shp 276 = _ from rfl) ⟨_, _, rfl⟩ (by decide) rfl (by decide) (Nat.le_of_ble_eq_true rfl) rfl (m_writes (by unfold rng; omega) hO (by first | omega | (simp only [List.length_append, List.length_cons, List.length_nil]; omega)) (fun σ0 o0 w0 => ?_))
        refine go_iload (y := mX11_writesName) (pc := 47) dX11_writesName_47 rfl ?_
        refine go_bipush (y := mX11_writesName) (pc := 49) dX11_writesName_49 (by decide) ?_
        refine go_idiv (y := mX11_writesName) (pc := 51) dX11_writesName_51 (by omega) (by omega) (by omega) ?_
        refine go_top (b := 0) ((by decide)) (fun t51 => ?_)
        refine go_istore (y := mX11_writesName) (pc := 52) dX11_writesName_52 (by decide) ?_
        refine go_goto (y := mX11_writesName) (pc := 54) (tgt := 28) dX11_writesName_54 (by decide) ?_
        refine go_iload (y := mX11_writesName) (pc := 28) dX11_writesName_28 rfl ?_
        refine go_if_le (y := mX11_writesName) (pc := 30) (tgt := 57) dX11_writesName_30 (by decide) (by omega) (fun h30 => ?_) (fun h30 => ?_)
        · skip
          refine go_return (y := mX11_writesName) (pc := 57) dX11_writesName_57 rfl ?_
          exact K σ0 o0 w0
        · skip
          exact absurd h30 (by decide)
    · skip
      exact absurd h14 (by omega)
  · skip
    have d2 : 27 ≤ N := d2
    have d3 : N < 729 := d3
    have rN : rng N := by unfold rng; omega
    have eL : l ++ nml 6 (S 1 m) = l ++ [96 + N / 27 % 27] ++ [96 + N % 27] := by
      rw [← d4]
      simp only [ml27, List.nil_append, List.append_assoc]
    rw [eL] at K
    refine go_aload_n (y := mX11_writesName) (pc := 0) dX11_writesName_0 rfl rfl ?_
    refine go_iload_n (y := mX11_writesName) (pc := 1) dX11_writesName_1 rfl rfl ?_
    refine go_iconst (y := mX11_writesName) (pc := 2) dX11_writesName_2 ?_
    refine go_callV2 (y := mX11_writesName) (pc := 3) (y' := mX11_of) (kc2 := 0) (ks2 := 0) dX11_writesName_3 ml_X11_100 ok_X11_of (show shp 276 = _ from rfl) ⟨_, _, rfl⟩ (by decide) ⟨rfl, rfl⟩ (by decide) (Nat.le_of_ble_eq_true rfl) rfl (m_of (m := m) (w := 0) (by omega) (by decide) (fun v3 e3 r3 => ?_))
    have e9 : v3 = N := by rw [e3, eN]; exact rlN hr hm
    rw [e9]
    refine go_istore_n (y := mX11_writesName) (pc := 6) dX11_writesName_6 rfl (by decide) ?_
    refine go_iconst (y := mX11_writesName) (pc := 7) dX11_writesName_7 ?_
    refine go_istore_n (y := mX11_writesName) (pc := 8) dX11_writesName_8 rfl (by decide) ?_
    refine go_iload_n (y := mX11_writesName) (pc := 9) dX11_writesName_9 rfl rfl ?_
    refine go_iload_n (y := mX11_writesName) (pc := 10) dX11_writesName_10 rfl rfl ?_
    refine go_bipush (y := mX11_writesName) (pc := 11) dX11_writesName_11 (by decide) ?_
    refine go_idiv (y := mX11_writesName) (pc := 13) dX11_writesName_13 (by omega) (by omega) (by omega) ?_
    refine go_top (b := N / 27) ((Int.tdiv_eq_ediv_of_nonneg (by omega))) (fun t13 => ?_)
    refine go_icmp_gt (y := mX11_writesName) (pc := 14) (tgt := 25) dX11_writesName_14 (by decide) (by omega) (by omega) (fun h14 => ?_) (fun h14 => ?_)
    · skip
      exact absurd h14 (by omega)
    · skip
      refine go_iload_n (y := mX11_writesName) (pc := 17) dX11_writesName_17 rfl rfl ?_
      refine go_bipush (y := mX11_writesName) (pc := 18) dX11_writesName_18 (by decide) ?_
      refine go_imul (y := mX11_writesName) (pc := 20) dX11_writesName_20 ?_
      refine go_top (b := 27) ((by decide)) (fun t20 => ?_)
      refine go_istore_n (y := mX11_writesName) (pc := 21) dX11_writesName_21 rfl (by decide) ?_
      refine go_goto (y := mX11_writesName) (pc := 22) (tgt := 9) dX11_writesName_22 (by decide) ?_
      refine go_iload_n (y := mX11_writesName) (pc := 9) dX11_writesName_9 rfl rfl ?_
      refine go_iload_n (y := mX11_writesName) (pc := 10) dX11_writesName_10 rfl rfl ?_
      refine go_bipush (y := mX11_writesName) (pc := 11) dX11_writesName_11 (by decide) ?_
      refine go_idiv (y := mX11_writesName) (pc := 13) dX11_writesName_13 (by omega) (by omega) (by omega) ?_
      refine go_top (b := N / 27) ((Int.tdiv_eq_ediv_of_nonneg (by omega))) (fun t13 => ?_)
      refine go_icmp_gt (y := mX11_writesName) (pc := 14) (tgt := 25) dX11_writesName_14 (by decide) (by omega) (by omega) (fun h14 => ?_) (fun h14 => ?_)
      · skip
        skip
        refine go_iload_n (y := mX11_writesName) (pc := 25) dX11_writesName_25 rfl rfl ?_
        refine go_istore (y := mX11_writesName) (pc := 26) dX11_writesName_26 (by decide) ?_
        refine go_iload (y := mX11_writesName) (pc := 28) dX11_writesName_28 rfl ?_
        refine go_if_le (y := mX11_writesName) (pc := 30) (tgt := 57) dX11_writesName_30 (by decide) (by omega) (fun h30 => ?_) (fun h30 => ?_)
        · skip
          exact absurd h30 (by omega)
        · skip
          refine go_aload_n (y := mX11_writesName) (pc := 33) dX11_writesName_33 rfl rfl ?_
          refine go_bipush (y := mX11_writesName) (pc := 34) dX11_writesName_34 (by decide) ?_
          refine go_iload_n (y := mX11_writesName) (pc := 36) dX11_writesName_36 rfl rfl ?_
          refine go_iload (y := mX11_writesName) (pc := 37) dX11_writesName_37 rfl ?_
          refine go_idiv (y := mX11_writesName) (pc := 39) dX11_writesName_39 (by omega) (by omega) (by omega) ?_
          refine go_top (b := N / 27) ((by rw [Int.tdiv_eq_ediv_of_nonneg (by omega)])) (fun t39 => ?_)
          refine go_bipush (y := mX11_writesName) (pc := 40) dX11_writesName_40 (by decide) ?_
          refine go_irem (y := mX11_writesName) (pc := 42) dX11_writesName_42 (by omega) (by omega) (by omega) ?_
          skip
          refine go_iadd (y := mX11_writesName) (pc := 43) dX11_writesName_43 ?_
          refine go_top (b := 96 + N / 27 % 27) ((by rw [Int.tdiv_eq_ediv_of_nonneg (by omega)]; omega)) (fun t43 => ?_)
          refine go_callV1 (y := mX11_writesName) (pc := 44) (y' := mX11_writes) (kc2 := 0) (ks2 := 0) dX11_writesName_44 ml_X11_403 ok_X11_writes (show shp 276 = _ from rfl) ⟨_, _, rfl⟩ (by decide) rfl (by decide) (Nat.le_of_ble_eq_true rfl) rfl (m_writes (by unfold rng; omega) hO (by first | omega | (simp only [List.length_append, List.length_cons, List.length_nil]; omega)) (fun σ1 o1 w1 => ?_))
          refine go_iload (y := mX11_writesName) (pc := 47) dX11_writesName_47 rfl ?_
          refine go_bipush (y := mX11_writesName) (pc := 49) dX11_writesName_49 (by decide) ?_
          refine go_idiv (y := mX11_writesName) (pc := 51) dX11_writesName_51 (by omega) (by omega) (by omega) ?_
          refine go_top (b := 1) ((by decide)) (fun t51 => ?_)
          refine go_istore (y := mX11_writesName) (pc := 52) dX11_writesName_52 (by decide) ?_
          refine go_goto (y := mX11_writesName) (pc := 54) (tgt := 28) dX11_writesName_54 (by decide) ?_
          refine go_iload (y := mX11_writesName) (pc := 28) dX11_writesName_28 rfl ?_
          refine go_if_le (y := mX11_writesName) (pc := 30) (tgt := 57) dX11_writesName_30 (by decide) (by omega) (fun h30 => ?_) (fun h30 => ?_)
          · skip
            exact absurd h30 (by omega)
          · skip
            refine go_aload_n (y := mX11_writesName) (pc := 33) dX11_writesName_33 rfl rfl ?_
            refine go_bipush (y := mX11_writesName) (pc := 34) dX11_writesName_34 (by decide) ?_
            refine go_iload_n (y := mX11_writesName) (pc := 36) dX11_writesName_36 rfl rfl ?_
            refine go_iload (y := mX11_writesName) (pc := 37) dX11_writesName_37 rfl ?_
            refine go_idiv (y := mX11_writesName) (pc := 39) dX11_writesName_39 (by omega) (by omega) (by omega) ?_
            refine go_top (b := N) ((by rw [Int.tdiv_eq_ediv_of_nonneg (by omega)]; omega)) (fun t39 => ?_)
            refine go_bipush (y := mX11_writesName) (pc := 40) dX11_writesName_40 (by decide) ?_
            refine go_irem (y := mX11_writesName) (pc := 42) dX11_writesName_42 (by omega) (by omega) (by omega) ?_
            skip
            refine go_iadd (y := mX11_writesName) (pc := 43) dX11_writesName_43 ?_
            refine go_top (b := 96 + N % 27) ((by rw [Int.tdiv_eq_ediv_of_nonneg (by omega)]; omega)) (fun t43 => ?_)
            refine go_callV1 (y := mX11_writesName) (pc := 44) (y' := mX11_writes) (kc2 := 0) (ks2 := 0) dX11_writesName_44 ml_X11_403 ok_X11_writes (show shp 276 = _ from rfl) ⟨_, _, rfl⟩ (by decide) rfl (by decide) (Nat.le_of_ble_eq_true rfl) rfl (m_writes (by unfold rng; omega) o1 (by first | omega | (simp only [List.length_append, List.length_cons, List.length_nil]; omega)) (fun σ0 o0 w0 => ?_))
            refine go_iload (y := mX11_writesName) (pc := 47) dX11_writesName_47 rfl ?_
            refine go_bipush (y := mX11_writesName) (pc := 49) dX11_writesName_49 (by decide) ?_
            refine go_idiv (y := mX11_writesName) (pc := 51) dX11_writesName_51 (by omega) (by omega) (by omega) ?_
            refine go_top (b := 0) ((by decide)) (fun t51 => ?_)
            refine go_istore (y := mX11_writesName) (pc := 52) dX11_writesName_52 (by decide) ?_
            refine go_goto (y := mX11_writesName) (pc := 54) (tgt := 28) dX11_writesName_54 (by decide) ?_
            refine go_iload (y := mX11_writesName) (pc := 28) dX11_writesName_28 rfl ?_
            refine go_if_le (y := mX11_writesName) (pc := 30) (tgt := 57) dX11_writesName_30 (by decide) (by omega) (fun h30 => ?_) (fun h30 => ?_)
            · skip
              refine go_return (y := mX11_writesName) (pc := 57) dX11_writesName_57 rfl ?_
              exact K σ0 o0 (smW_t w0 w1)
            · skip
              exact absurd h30 (by decide)
      · skip
        exact absurd h14 (by omega)
  · skip
    have d2 : 729 ≤ N := d2
    have d3 : N < 19683 := d3
    have rN : rng N := by unfold rng; omega
    have eL : l ++ nml 6 (S 1 m) = l ++ [96 + N / 729 % 27] ++ [96 + N / 27 % 27] ++ [96 + N % 27] := by
      rw [← d4]
      simp only [ml27, List.nil_append, List.append_assoc]
      rw [show N / 27 / 27 = N / 729 by omega]
    rw [eL] at K
    refine go_aload_n (y := mX11_writesName) (pc := 0) dX11_writesName_0 rfl rfl ?_
    refine go_iload_n (y := mX11_writesName) (pc := 1) dX11_writesName_1 rfl rfl ?_
    refine go_iconst (y := mX11_writesName) (pc := 2) dX11_writesName_2 ?_
    refine go_callV2 (y := mX11_writesName) (pc := 3) (y' := mX11_of) (kc2 := 0) (ks2 := 0) dX11_writesName_3 ml_X11_100 ok_X11_of (show shp 276 = _ from rfl) ⟨_, _, rfl⟩ (by decide) ⟨rfl, rfl⟩ (by decide) (Nat.le_of_ble_eq_true rfl) rfl (m_of (m := m) (w := 0) (by omega) (by decide) (fun v3 e3 r3 => ?_))
    have e9 : v3 = N := by rw [e3, eN]; exact rlN hr hm
    rw [e9]
    refine go_istore_n (y := mX11_writesName) (pc := 6) dX11_writesName_6 rfl (by decide) ?_
    refine go_iconst (y := mX11_writesName) (pc := 7) dX11_writesName_7 ?_
    refine go_istore_n (y := mX11_writesName) (pc := 8) dX11_writesName_8 rfl (by decide) ?_
    refine go_iload_n (y := mX11_writesName) (pc := 9) dX11_writesName_9 rfl rfl ?_
    refine go_iload_n (y := mX11_writesName) (pc := 10) dX11_writesName_10 rfl rfl ?_
    refine go_bipush (y := mX11_writesName) (pc := 11) dX11_writesName_11 (by decide) ?_
    refine go_idiv (y := mX11_writesName) (pc := 13) dX11_writesName_13 (by omega) (by omega) (by omega) ?_
    refine go_top (b := N / 27) ((Int.tdiv_eq_ediv_of_nonneg (by omega))) (fun t13 => ?_)
    refine go_icmp_gt (y := mX11_writesName) (pc := 14) (tgt := 25) dX11_writesName_14 (by decide) (by omega) (by omega) (fun h14 => ?_) (fun h14 => ?_)
    · skip
      exact absurd h14 (by omega)
    · skip
      refine go_iload_n (y := mX11_writesName) (pc := 17) dX11_writesName_17 rfl rfl ?_
      refine go_bipush (y := mX11_writesName) (pc := 18) dX11_writesName_18 (by decide) ?_
      refine go_imul (y := mX11_writesName) (pc := 20) dX11_writesName_20 ?_
      refine go_top (b := 27) ((by decide)) (fun t20 => ?_)
      refine go_istore_n (y := mX11_writesName) (pc := 21) dX11_writesName_21 rfl (by decide) ?_
      refine go_goto (y := mX11_writesName) (pc := 22) (tgt := 9) dX11_writesName_22 (by decide) ?_
      refine go_iload_n (y := mX11_writesName) (pc := 9) dX11_writesName_9 rfl rfl ?_
      refine go_iload_n (y := mX11_writesName) (pc := 10) dX11_writesName_10 rfl rfl ?_
      refine go_bipush (y := mX11_writesName) (pc := 11) dX11_writesName_11 (by decide) ?_
      refine go_idiv (y := mX11_writesName) (pc := 13) dX11_writesName_13 (by omega) (by omega) (by omega) ?_
      refine go_top (b := N / 27) ((Int.tdiv_eq_ediv_of_nonneg (by omega))) (fun t13 => ?_)
      refine go_icmp_gt (y := mX11_writesName) (pc := 14) (tgt := 25) dX11_writesName_14 (by decide) (by omega) (by omega) (fun h14 => ?_) (fun h14 => ?_)
      · skip
        exact absurd h14 (by omega)
      · skip
        refine go_iload_n (y := mX11_writesName) (pc := 17) dX11_writesName_17 rfl rfl ?_
        refine go_bipush (y := mX11_writesName) (pc := 18) dX11_writesName_18 (by decide) ?_
        refine go_imul (y := mX11_writesName) (pc := 20) dX11_writesName_20 ?_
        refine go_top (b := 729) ((by decide)) (fun t20 => ?_)
        refine go_istore_n (y := mX11_writesName) (pc := 21) dX11_writesName_21 rfl (by decide) ?_
        refine go_goto (y := mX11_writesName) (pc := 22) (tgt := 9) dX11_writesName_22 (by decide) ?_
        refine go_iload_n (y := mX11_writesName) (pc := 9) dX11_writesName_9 rfl rfl ?_
        refine go_iload_n (y := mX11_writesName) (pc := 10) dX11_writesName_10 rfl rfl ?_
        refine go_bipush (y := mX11_writesName) (pc := 11) dX11_writesName_11 (by decide) ?_
        refine go_idiv (y := mX11_writesName) (pc := 13) dX11_writesName_13 (by omega) (by omega) (by omega) ?_
        refine go_top (b := N / 27) ((Int.tdiv_eq_ediv_of_nonneg (by omega))) (fun t13 => ?_)
        refine go_icmp_gt (y := mX11_writesName) (pc := 14) (tgt := 25) dX11_writesName_14 (by decide) (by omega) (by omega) (fun h14 => ?_) (fun h14 => ?_)
        · skip
          skip
          refine go_iload_n (y := mX11_writesName) (pc := 25) dX11_writesName_25 rfl rfl ?_
          refine go_istore (y := mX11_writesName) (pc := 26) dX11_writesName_26 (by decide) ?_
          refine go_iload (y := mX11_writesName) (pc := 28) dX11_writesName_28 rfl ?_
          refine go_if_le (y := mX11_writesName) (pc := 30) (tgt := 57) dX11_writesName_30 (by decide) (by omega) (fun h30 => ?_) (fun h30 => ?_)
          · skip
            exact absurd h30 (by omega)
          · skip
            refine go_aload_n (y := mX11_writesName) (pc := 33) dX11_writesName_33 rfl rfl ?_
            refine go_bipush (y := mX11_writesName) (pc := 34) dX11_writesName_34 (by decide) ?_
            refine go_iload_n (y := mX11_writesName) (pc := 36) dX11_writesName_36 rfl rfl ?_
            refine go_iload (y := mX11_writesName) (pc := 37) dX11_writesName_37 rfl ?_
            refine go_idiv (y := mX11_writesName) (pc := 39) dX11_writesName_39 (by omega) (by omega) (by omega) ?_
            refine go_top (b := N / 729) ((by rw [Int.tdiv_eq_ediv_of_nonneg (by omega)])) (fun t39 => ?_)
            refine go_bipush (y := mX11_writesName) (pc := 40) dX11_writesName_40 (by decide) ?_
            refine go_irem (y := mX11_writesName) (pc := 42) dX11_writesName_42 (by omega) (by omega) (by omega) ?_
            skip
            refine go_iadd (y := mX11_writesName) (pc := 43) dX11_writesName_43 ?_
            refine go_top (b := 96 + N / 729 % 27) ((by rw [Int.tdiv_eq_ediv_of_nonneg (by omega)]; omega)) (fun t43 => ?_)
            refine go_callV1 (y := mX11_writesName) (pc := 44) (y' := mX11_writes) (kc2 := 0) (ks2 := 0) dX11_writesName_44 ml_X11_403 ok_X11_writes (show shp 276 = _ from rfl) ⟨_, _, rfl⟩ (by decide) rfl (by decide) (Nat.le_of_ble_eq_true rfl) rfl (m_writes (by unfold rng; omega) hO (by first | omega | (simp only [List.length_append, List.length_cons, List.length_nil]; omega)) (fun σ2 o2 w2 => ?_))
            refine go_iload (y := mX11_writesName) (pc := 47) dX11_writesName_47 rfl ?_
            refine go_bipush (y := mX11_writesName) (pc := 49) dX11_writesName_49 (by decide) ?_
            refine go_idiv (y := mX11_writesName) (pc := 51) dX11_writesName_51 (by omega) (by omega) (by omega) ?_
            refine go_top (b := 27) ((by decide)) (fun t51 => ?_)
            refine go_istore (y := mX11_writesName) (pc := 52) dX11_writesName_52 (by decide) ?_
            refine go_goto (y := mX11_writesName) (pc := 54) (tgt := 28) dX11_writesName_54 (by decide) ?_
            refine go_iload (y := mX11_writesName) (pc := 28) dX11_writesName_28 rfl ?_
            refine go_if_le (y := mX11_writesName) (pc := 30) (tgt := 57) dX11_writesName_30 (by decide) (by omega) (fun h30 => ?_) (fun h30 => ?_)
            · skip
              exact absurd h30 (by omega)
            · skip
              refine go_aload_n (y := mX11_writesName) (pc := 33) dX11_writesName_33 rfl rfl ?_
              refine go_bipush (y := mX11_writesName) (pc := 34) dX11_writesName_34 (by decide) ?_
              refine go_iload_n (y := mX11_writesName) (pc := 36) dX11_writesName_36 rfl rfl ?_
              refine go_iload (y := mX11_writesName) (pc := 37) dX11_writesName_37 rfl ?_
              refine go_idiv (y := mX11_writesName) (pc := 39) dX11_writesName_39 (by omega) (by omega) (by omega) ?_
              refine go_top (b := N / 27) ((by rw [Int.tdiv_eq_ediv_of_nonneg (by omega)])) (fun t39 => ?_)
              refine go_bipush (y := mX11_writesName) (pc := 40) dX11_writesName_40 (by decide) ?_
              refine go_irem (y := mX11_writesName) (pc := 42) dX11_writesName_42 (by omega) (by omega) (by omega) ?_
              skip
              refine go_iadd (y := mX11_writesName) (pc := 43) dX11_writesName_43 ?_
              refine go_top (b := 96 + N / 27 % 27) ((by rw [Int.tdiv_eq_ediv_of_nonneg (by omega)]; omega)) (fun t43 => ?_)
              refine go_callV1 (y := mX11_writesName) (pc := 44) (y' := mX11_writes) (kc2 := 0) (ks2 := 0) dX11_writesName_44 ml_X11_403 ok_X11_writes (show shp 276 = _ from rfl) ⟨_, _, rfl⟩ (by decide) rfl (by decide) (Nat.le_of_ble_eq_true rfl) rfl (m_writes (by unfold rng; omega) o2 (by first | omega | (simp only [List.length_append, List.length_cons, List.length_nil]; omega)) (fun σ1 o1 w1 => ?_))
              refine go_iload (y := mX11_writesName) (pc := 47) dX11_writesName_47 rfl ?_
              refine go_bipush (y := mX11_writesName) (pc := 49) dX11_writesName_49 (by decide) ?_
              refine go_idiv (y := mX11_writesName) (pc := 51) dX11_writesName_51 (by omega) (by omega) (by omega) ?_
              refine go_top (b := 1) ((by decide)) (fun t51 => ?_)
              refine go_istore (y := mX11_writesName) (pc := 52) dX11_writesName_52 (by decide) ?_
              refine go_goto (y := mX11_writesName) (pc := 54) (tgt := 28) dX11_writesName_54 (by decide) ?_
              refine go_iload (y := mX11_writesName) (pc := 28) dX11_writesName_28 rfl ?_
              refine go_if_le (y := mX11_writesName) (pc := 30) (tgt := 57) dX11_writesName_30 (by decide) (by omega) (fun h30 => ?_) (fun h30 => ?_)
              · skip
                exact absurd h30 (by omega)
              · skip
                refine go_aload_n (y := mX11_writesName) (pc := 33) dX11_writesName_33 rfl rfl ?_
                refine go_bipush (y := mX11_writesName) (pc := 34) dX11_writesName_34 (by decide) ?_
                refine go_iload_n (y := mX11_writesName) (pc := 36) dX11_writesName_36 rfl rfl ?_
                refine go_iload (y := mX11_writesName) (pc := 37) dX11_writesName_37 rfl ?_
                refine go_idiv (y := mX11_writesName) (pc := 39) dX11_writesName_39 (by omega) (by omega) (by omega) ?_
                refine go_top (b := N) ((by rw [Int.tdiv_eq_ediv_of_nonneg (by omega)]; omega)) (fun t39 => ?_)
                refine go_bipush (y := mX11_writesName) (pc := 40) dX11_writesName_40 (by decide) ?_
                refine go_irem (y := mX11_writesName) (pc := 42) dX11_writesName_42 (by omega) (by omega) (by omega) ?_
                skip
                refine go_iadd (y := mX11_writesName) (pc := 43) dX11_writesName_43 ?_
                refine go_top (b := 96 + N % 27) ((by rw [Int.tdiv_eq_ediv_of_nonneg (by omega)]; omega)) (fun t43 => ?_)
                refine go_callV1 (y := mX11_writesName) (pc := 44) (y' := mX11_writes) (kc2 := 0) (ks2 := 0) dX11_writesName_44 ml_X11_403 ok_X11_writes (show shp 276 = _ from rfl) ⟨_, _, rfl⟩ (by decide) rfl (by decide) (Nat.le_of_ble_eq_true rfl) rfl (m_writes (by unfold rng; omega) o1 (by first | omega | (simp only [List.length_append, List.length_cons, List.length_nil]; omega)) (fun σ0 o0 w0 => ?_))
                refine go_iload (y := mX11_writesName) (pc := 47) dX11_writesName_47 rfl ?_
                refine go_bipush (y := mX11_writesName) (pc := 49) dX11_writesName_49 (by decide) ?_
                refine go_idiv (y := mX11_writesName) (pc := 51) dX11_writesName_51 (by omega) (by omega) (by omega) ?_
                refine go_top (b := 0) ((by decide)) (fun t51 => ?_)
                refine go_istore (y := mX11_writesName) (pc := 52) dX11_writesName_52 (by decide) ?_
                refine go_goto (y := mX11_writesName) (pc := 54) (tgt := 28) dX11_writesName_54 (by decide) ?_
                refine go_iload (y := mX11_writesName) (pc := 28) dX11_writesName_28 rfl ?_
                refine go_if_le (y := mX11_writesName) (pc := 30) (tgt := 57) dX11_writesName_30 (by decide) (by omega) (fun h30 => ?_) (fun h30 => ?_)
                · skip
                  refine go_return (y := mX11_writesName) (pc := 57) dX11_writesName_57 rfl ?_
                  exact K σ0 o0 (smW_t w0 (smW_t w1 w2))
                · skip
                  exact absurd h30 (by decide)
        · skip
          exact absurd h14 (by omega)
  · skip
    have d2 : 19683 ≤ N := d2
    have d3 : N < 531441 := d3
    have rN : rng N := by unfold rng; omega
    have eL : l ++ nml 6 (S 1 m) = l ++ [96 + N / 19683 % 27] ++ [96 + N / 729 % 27] ++ [96 + N / 27 % 27] ++ [96 + N % 27] := by
      rw [← d4]
      simp only [ml27, List.nil_append, List.append_assoc]
      rw [show N / 27 / 27 / 27 = N / 19683 by omega]
      rw [show N / 27 / 27 = N / 729 by omega]
    rw [eL] at K
    refine go_aload_n (y := mX11_writesName) (pc := 0) dX11_writesName_0 rfl rfl ?_
    refine go_iload_n (y := mX11_writesName) (pc := 1) dX11_writesName_1 rfl rfl ?_
    refine go_iconst (y := mX11_writesName) (pc := 2) dX11_writesName_2 ?_
    refine go_callV2 (y := mX11_writesName) (pc := 3) (y' := mX11_of) (kc2 := 0) (ks2 := 0) dX11_writesName_3 ml_X11_100 ok_X11_of (show shp 276 = _ from rfl) ⟨_, _, rfl⟩ (by decide) ⟨rfl, rfl⟩ (by decide) (Nat.le_of_ble_eq_true rfl) rfl (m_of (m := m) (w := 0) (by omega) (by decide) (fun v3 e3 r3 => ?_))
    have e9 : v3 = N := by rw [e3, eN]; exact rlN hr hm
    rw [e9]
    refine go_istore_n (y := mX11_writesName) (pc := 6) dX11_writesName_6 rfl (by decide) ?_
    refine go_iconst (y := mX11_writesName) (pc := 7) dX11_writesName_7 ?_
    refine go_istore_n (y := mX11_writesName) (pc := 8) dX11_writesName_8 rfl (by decide) ?_
    refine go_iload_n (y := mX11_writesName) (pc := 9) dX11_writesName_9 rfl rfl ?_
    refine go_iload_n (y := mX11_writesName) (pc := 10) dX11_writesName_10 rfl rfl ?_
    refine go_bipush (y := mX11_writesName) (pc := 11) dX11_writesName_11 (by decide) ?_
    refine go_idiv (y := mX11_writesName) (pc := 13) dX11_writesName_13 (by omega) (by omega) (by omega) ?_
    refine go_top (b := N / 27) ((Int.tdiv_eq_ediv_of_nonneg (by omega))) (fun t13 => ?_)
    refine go_icmp_gt (y := mX11_writesName) (pc := 14) (tgt := 25) dX11_writesName_14 (by decide) (by omega) (by omega) (fun h14 => ?_) (fun h14 => ?_)
    · skip
      exact absurd h14 (by omega)
    · skip
      refine go_iload_n (y := mX11_writesName) (pc := 17) dX11_writesName_17 rfl rfl ?_
      refine go_bipush (y := mX11_writesName) (pc := 18) dX11_writesName_18 (by decide) ?_
      refine go_imul (y := mX11_writesName) (pc := 20) dX11_writesName_20 ?_
      refine go_top (b := 27) ((by decide)) (fun t20 => ?_)
      refine go_istore_n (y := mX11_writesName) (pc := 21) dX11_writesName_21 rfl (by decide) ?_
      refine go_goto (y := mX11_writesName) (pc := 22) (tgt := 9) dX11_writesName_22 (by decide) ?_
      refine go_iload_n (y := mX11_writesName) (pc := 9) dX11_writesName_9 rfl rfl ?_
      refine go_iload_n (y := mX11_writesName) (pc := 10) dX11_writesName_10 rfl rfl ?_
      refine go_bipush (y := mX11_writesName) (pc := 11) dX11_writesName_11 (by decide) ?_
      refine go_idiv (y := mX11_writesName) (pc := 13) dX11_writesName_13 (by omega) (by omega) (by omega) ?_
      refine go_top (b := N / 27) ((Int.tdiv_eq_ediv_of_nonneg (by omega))) (fun t13 => ?_)
      refine go_icmp_gt (y := mX11_writesName) (pc := 14) (tgt := 25) dX11_writesName_14 (by decide) (by omega) (by omega) (fun h14 => ?_) (fun h14 => ?_)
      · skip
        exact absurd h14 (by omega)
      · skip
        refine go_iload_n (y := mX11_writesName) (pc := 17) dX11_writesName_17 rfl rfl ?_
        refine go_bipush (y := mX11_writesName) (pc := 18) dX11_writesName_18 (by decide) ?_
        refine go_imul (y := mX11_writesName) (pc := 20) dX11_writesName_20 ?_
        refine go_top (b := 729) ((by decide)) (fun t20 => ?_)
        refine go_istore_n (y := mX11_writesName) (pc := 21) dX11_writesName_21 rfl (by decide) ?_
        refine go_goto (y := mX11_writesName) (pc := 22) (tgt := 9) dX11_writesName_22 (by decide) ?_
        refine go_iload_n (y := mX11_writesName) (pc := 9) dX11_writesName_9 rfl rfl ?_
        refine go_iload_n (y := mX11_writesName) (pc := 10) dX11_writesName_10 rfl rfl ?_
        refine go_bipush (y := mX11_writesName) (pc := 11) dX11_writesName_11 (by decide) ?_
        refine go_idiv (y := mX11_writesName) (pc := 13) dX11_writesName_13 (by omega) (by omega) (by omega) ?_
        refine go_top (b := N / 27) ((Int.tdiv_eq_ediv_of_nonneg (by omega))) (fun t13 => ?_)
        refine go_icmp_gt (y := mX11_writesName) (pc := 14) (tgt := 25) dX11_writesName_14 (by decide) (by omega) (by omega) (fun h14 => ?_) (fun h14 => ?_)
        · skip
          exact absurd h14 (by omega)
        · skip
          refine go_iload_n (y := mX11_writesName) (pc := 17) dX11_writesName_17 rfl rfl ?_
          refine go_bipush (y := mX11_writesName) (pc := 18) dX11_writesName_18 (by decide) ?_
          refine go_imul (y := mX11_writesName) (pc := 20) dX11_writesName_20 ?_
          refine go_top (b := 19683) ((by decide)) (fun t20 => ?_)
          refine go_istore_n (y := mX11_writesName) (pc := 21) dX11_writesName_21 rfl (by decide) ?_
          refine go_goto (y := mX11_writesName) (pc := 22) (tgt := 9) dX11_writesName_22 (by decide) ?_
          refine go_iload_n (y := mX11_writesName) (pc := 9) dX11_writesName_9 rfl rfl ?_
          refine go_iload_n (y := mX11_writesName) (pc := 10) dX11_writesName_10 rfl rfl ?_
          refine go_bipush (y := mX11_writesName) (pc := 11) dX11_writesName_11 (by decide) ?_
          refine go_idiv (y := mX11_writesName) (pc := 13) dX11_writesName_13 (by omega) (by omega) (by omega) ?_
          refine go_top (b := N / 27) ((Int.tdiv_eq_ediv_of_nonneg (by omega))) (fun t13 => ?_)
          refine go_icmp_gt (y := mX11_writesName) (pc := 14) (tgt := 25) dX11_writesName_14 (by decide) (by omega) (by omega) (fun h14 => ?_) (fun h14 => ?_)
          · skip
            skip
            refine go_iload_n (y := mX11_writesName) (pc := 25) dX11_writesName_25 rfl rfl ?_
            refine go_istore (y := mX11_writesName) (pc := 26) dX11_writesName_26 (by decide) ?_
            refine go_iload (y := mX11_writesName) (pc := 28) dX11_writesName_28 rfl ?_
            refine go_if_le (y := mX11_writesName) (pc := 30) (tgt := 57) dX11_writesName_30 (by decide) (by omega) (fun h30 => ?_) (fun h30 => ?_)
            · skip
              exact absurd h30 (by omega)
            · skip
              refine go_aload_n (y := mX11_writesName) (pc := 33) dX11_writesName_33 rfl rfl ?_
              refine go_bipush (y := mX11_writesName) (pc := 34) dX11_writesName_34 (by decide) ?_
              refine go_iload_n (y := mX11_writesName) (pc := 36) dX11_writesName_36 rfl rfl ?_
              refine go_iload (y := mX11_writesName) (pc := 37) dX11_writesName_37 rfl ?_
              refine go_idiv (y := mX11_writesName) (pc := 39) dX11_writesName_39 (by omega) (by omega) (by omega) ?_
              refine go_top (b := N / 19683) ((by rw [Int.tdiv_eq_ediv_of_nonneg (by omega)])) (fun t39 => ?_)
              refine go_bipush (y := mX11_writesName) (pc := 40) dX11_writesName_40 (by decide) ?_
              refine go_irem (y := mX11_writesName) (pc := 42) dX11_writesName_42 (by omega) (by omega) (by omega) ?_
              skip
              refine go_iadd (y := mX11_writesName) (pc := 43) dX11_writesName_43 ?_
              refine go_top (b := 96 + N / 19683 % 27) ((by rw [Int.tdiv_eq_ediv_of_nonneg (by omega)]; omega)) (fun t43 => ?_)
              refine go_callV1 (y := mX11_writesName) (pc := 44) (y' := mX11_writes) (kc2 := 0) (ks2 := 0) dX11_writesName_44 ml_X11_403 ok_X11_writes (show shp 276 = _ from rfl) ⟨_, _, rfl⟩ (by decide) rfl (by decide) (Nat.le_of_ble_eq_true rfl) rfl (m_writes (by unfold rng; omega) hO (by first | omega | (simp only [List.length_append, List.length_cons, List.length_nil]; omega)) (fun σ3 o3 w3 => ?_))
              refine go_iload (y := mX11_writesName) (pc := 47) dX11_writesName_47 rfl ?_
              refine go_bipush (y := mX11_writesName) (pc := 49) dX11_writesName_49 (by decide) ?_
              refine go_idiv (y := mX11_writesName) (pc := 51) dX11_writesName_51 (by omega) (by omega) (by omega) ?_
              refine go_top (b := 729) ((by decide)) (fun t51 => ?_)
              refine go_istore (y := mX11_writesName) (pc := 52) dX11_writesName_52 (by decide) ?_
              refine go_goto (y := mX11_writesName) (pc := 54) (tgt := 28) dX11_writesName_54 (by decide) ?_
              refine go_iload (y := mX11_writesName) (pc := 28) dX11_writesName_28 rfl ?_
              refine go_if_le (y := mX11_writesName) (pc := 30) (tgt := 57) dX11_writesName_30 (by decide) (by omega) (fun h30 => ?_) (fun h30 => ?_)
              · skip
                exact absurd h30 (by omega)
              · skip
                refine go_aload_n (y := mX11_writesName) (pc := 33) dX11_writesName_33 rfl rfl ?_
                refine go_bipush (y := mX11_writesName) (pc := 34) dX11_writesName_34 (by decide) ?_
                refine go_iload_n (y := mX11_writesName) (pc := 36) dX11_writesName_36 rfl rfl ?_
                refine go_iload (y := mX11_writesName) (pc := 37) dX11_writesName_37 rfl ?_
                refine go_idiv (y := mX11_writesName) (pc := 39) dX11_writesName_39 (by omega) (by omega) (by omega) ?_
                refine go_top (b := N / 729) ((by rw [Int.tdiv_eq_ediv_of_nonneg (by omega)])) (fun t39 => ?_)
                refine go_bipush (y := mX11_writesName) (pc := 40) dX11_writesName_40 (by decide) ?_
                refine go_irem (y := mX11_writesName) (pc := 42) dX11_writesName_42 (by omega) (by omega) (by omega) ?_
                skip
                refine go_iadd (y := mX11_writesName) (pc := 43) dX11_writesName_43 ?_
                refine go_top (b := 96 + N / 729 % 27) ((by rw [Int.tdiv_eq_ediv_of_nonneg (by omega)]; omega)) (fun t43 => ?_)
                refine go_callV1 (y := mX11_writesName) (pc := 44) (y' := mX11_writes) (kc2 := 0) (ks2 := 0) dX11_writesName_44 ml_X11_403 ok_X11_writes (show shp 276 = _ from rfl) ⟨_, _, rfl⟩ (by decide) rfl (by decide) (Nat.le_of_ble_eq_true rfl) rfl (m_writes (by unfold rng; omega) o3 (by first | omega | (simp only [List.length_append, List.length_cons, List.length_nil]; omega)) (fun σ2 o2 w2 => ?_))
                refine go_iload (y := mX11_writesName) (pc := 47) dX11_writesName_47 rfl ?_
                refine go_bipush (y := mX11_writesName) (pc := 49) dX11_writesName_49 (by decide) ?_
                refine go_idiv (y := mX11_writesName) (pc := 51) dX11_writesName_51 (by omega) (by omega) (by omega) ?_
                refine go_top (b := 27) ((by decide)) (fun t51 => ?_)
                refine go_istore (y := mX11_writesName) (pc := 52) dX11_writesName_52 (by decide) ?_
                refine go_goto (y := mX11_writesName) (pc := 54) (tgt := 28) dX11_writesName_54 (by decide) ?_
                refine go_iload (y := mX11_writesName) (pc := 28) dX11_writesName_28 rfl ?_
                refine go_if_le (y := mX11_writesName) (pc := 30) (tgt := 57) dX11_writesName_30 (by decide) (by omega) (fun h30 => ?_) (fun h30 => ?_)
                · skip
                  exact absurd h30 (by omega)
                · skip
                  refine go_aload_n (y := mX11_writesName) (pc := 33) dX11_writesName_33 rfl rfl ?_
                  refine go_bipush (y := mX11_writesName) (pc := 34) dX11_writesName_34 (by decide) ?_
                  refine go_iload_n (y := mX11_writesName) (pc := 36) dX11_writesName_36 rfl rfl ?_
                  refine go_iload (y := mX11_writesName) (pc := 37) dX11_writesName_37 rfl ?_
                  refine go_idiv (y := mX11_writesName) (pc := 39) dX11_writesName_39 (by omega) (by omega) (by omega) ?_
                  refine go_top (b := N / 27) ((by rw [Int.tdiv_eq_ediv_of_nonneg (by omega)])) (fun t39 => ?_)
                  refine go_bipush (y := mX11_writesName) (pc := 40) dX11_writesName_40 (by decide) ?_
                  refine go_irem (y := mX11_writesName) (pc := 42) dX11_writesName_42 (by omega) (by omega) (by omega) ?_
                  skip
                  refine go_iadd (y := mX11_writesName) (pc := 43) dX11_writesName_43 ?_
                  refine go_top (b := 96 + N / 27 % 27) ((by rw [Int.tdiv_eq_ediv_of_nonneg (by omega)]; omega)) (fun t43 => ?_)
                  refine go_callV1 (y := mX11_writesName) (pc := 44) (y' := mX11_writes) (kc2 := 0) (ks2 := 0) dX11_writesName_44 ml_X11_403 ok_X11_writes (show shp 276 = _ from rfl) ⟨_, _, rfl⟩ (by decide) rfl (by decide) (Nat.le_of_ble_eq_true rfl) rfl (m_writes (by unfold rng; omega) o2 (by first | omega | (simp only [List.length_append, List.length_cons, List.length_nil]; omega)) (fun σ1 o1 w1 => ?_))
                  refine go_iload (y := mX11_writesName) (pc := 47) dX11_writesName_47 rfl ?_
                  refine go_bipush (y := mX11_writesName) (pc := 49) dX11_writesName_49 (by decide) ?_
                  refine go_idiv (y := mX11_writesName) (pc := 51) dX11_writesName_51 (by omega) (by omega) (by omega) ?_
                  refine go_top (b := 1) ((by decide)) (fun t51 => ?_)
                  refine go_istore (y := mX11_writesName) (pc := 52) dX11_writesName_52 (by decide) ?_
                  refine go_goto (y := mX11_writesName) (pc := 54) (tgt := 28) dX11_writesName_54 (by decide) ?_
                  refine go_iload (y := mX11_writesName) (pc := 28) dX11_writesName_28 rfl ?_
                  refine go_if_le (y := mX11_writesName) (pc := 30) (tgt := 57) dX11_writesName_30 (by decide) (by omega) (fun h30 => ?_) (fun h30 => ?_)
                  · skip
                    exact absurd h30 (by omega)
                  · skip
                    refine go_aload_n (y := mX11_writesName) (pc := 33) dX11_writesName_33 rfl rfl ?_
                    refine go_bipush (y := mX11_writesName) (pc := 34) dX11_writesName_34 (by decide) ?_
                    refine go_iload_n (y := mX11_writesName) (pc := 36) dX11_writesName_36 rfl rfl ?_
                    refine go_iload (y := mX11_writesName) (pc := 37) dX11_writesName_37 rfl ?_
                    refine go_idiv (y := mX11_writesName) (pc := 39) dX11_writesName_39 (by omega) (by omega) (by omega) ?_
                    refine go_top (b := N) ((by rw [Int.tdiv_eq_ediv_of_nonneg (by omega)]; omega)) (fun t39 => ?_)
                    refine go_bipush (y := mX11_writesName) (pc := 40) dX11_writesName_40 (by decide) ?_
                    refine go_irem (y := mX11_writesName) (pc := 42) dX11_writesName_42 (by omega) (by omega) (by omega) ?_
                    skip
                    refine go_iadd (y := mX11_writesName) (pc := 43) dX11_writesName_43 ?_
                    refine go_top (b := 96 + N % 27) ((by rw [Int.tdiv_eq_ediv_of_nonneg (by omega)]; omega)) (fun t43 => ?_)
                    refine go_callV1 (y := mX11_writesName) (pc := 44) (y' := mX11_writes) (kc2 := 0) (ks2 := 0) dX11_writesName_44 ml_X11_403 ok_X11_writes (show shp 276 = _ from rfl) ⟨_, _, rfl⟩ (by decide) rfl (by decide) (Nat.le_of_ble_eq_true rfl) rfl (m_writes (by unfold rng; omega) o1 (by first | omega | (simp only [List.length_append, List.length_cons, List.length_nil]; omega)) (fun σ0 o0 w0 => ?_))
                    refine go_iload (y := mX11_writesName) (pc := 47) dX11_writesName_47 rfl ?_
                    refine go_bipush (y := mX11_writesName) (pc := 49) dX11_writesName_49 (by decide) ?_
                    refine go_idiv (y := mX11_writesName) (pc := 51) dX11_writesName_51 (by omega) (by omega) (by omega) ?_
                    refine go_top (b := 0) ((by decide)) (fun t51 => ?_)
                    refine go_istore (y := mX11_writesName) (pc := 52) dX11_writesName_52 (by decide) ?_
                    refine go_goto (y := mX11_writesName) (pc := 54) (tgt := 28) dX11_writesName_54 (by decide) ?_
                    refine go_iload (y := mX11_writesName) (pc := 28) dX11_writesName_28 rfl ?_
                    refine go_if_le (y := mX11_writesName) (pc := 30) (tgt := 57) dX11_writesName_30 (by decide) (by omega) (fun h30 => ?_) (fun h30 => ?_)
                    · skip
                      refine go_return (y := mX11_writesName) (pc := 57) dX11_writesName_57 rfl ?_
                      exact K σ0 o0 (smW_t w0 (smW_t w1 (smW_t w2 w3)))
                    · skip
                      exact absurd h30 (by decide)
          · skip
            exact absurd h14 (by omega)
  · skip
    have d2 : 531441 ≤ N := d2
    have d3 : N < 14348907 := d3
    have rN : rng N := by unfold rng; omega
    have eL : l ++ nml 6 (S 1 m) = l ++ [96 + N / 531441 % 27] ++ [96 + N / 19683 % 27] ++ [96 + N / 729 % 27] ++ [96 + N / 27 % 27] ++ [96 + N % 27] := by
      rw [← d4]
      simp only [ml27, List.nil_append, List.append_assoc]
      rw [show N / 27 / 27 / 27 / 27 = N / 531441 by omega]
      rw [show N / 27 / 27 / 27 = N / 19683 by omega]
      rw [show N / 27 / 27 = N / 729 by omega]
    rw [eL] at K
    refine go_aload_n (y := mX11_writesName) (pc := 0) dX11_writesName_0 rfl rfl ?_
    refine go_iload_n (y := mX11_writesName) (pc := 1) dX11_writesName_1 rfl rfl ?_
    refine go_iconst (y := mX11_writesName) (pc := 2) dX11_writesName_2 ?_
    refine go_callV2 (y := mX11_writesName) (pc := 3) (y' := mX11_of) (kc2 := 0) (ks2 := 0) dX11_writesName_3 ml_X11_100 ok_X11_of (show shp 276 = _ from rfl) ⟨_, _, rfl⟩ (by decide) ⟨rfl, rfl⟩ (by decide) (Nat.le_of_ble_eq_true rfl) rfl (m_of (m := m) (w := 0) (by omega) (by decide) (fun v3 e3 r3 => ?_))
    have e9 : v3 = N := by rw [e3, eN]; exact rlN hr hm
    rw [e9]
    refine go_istore_n (y := mX11_writesName) (pc := 6) dX11_writesName_6 rfl (by decide) ?_
    refine go_iconst (y := mX11_writesName) (pc := 7) dX11_writesName_7 ?_
    refine go_istore_n (y := mX11_writesName) (pc := 8) dX11_writesName_8 rfl (by decide) ?_
    refine go_iload_n (y := mX11_writesName) (pc := 9) dX11_writesName_9 rfl rfl ?_
    refine go_iload_n (y := mX11_writesName) (pc := 10) dX11_writesName_10 rfl rfl ?_
    refine go_bipush (y := mX11_writesName) (pc := 11) dX11_writesName_11 (by decide) ?_
    refine go_idiv (y := mX11_writesName) (pc := 13) dX11_writesName_13 (by omega) (by omega) (by omega) ?_
    refine go_top (b := N / 27) ((Int.tdiv_eq_ediv_of_nonneg (by omega))) (fun t13 => ?_)
    refine go_icmp_gt (y := mX11_writesName) (pc := 14) (tgt := 25) dX11_writesName_14 (by decide) (by omega) (by omega) (fun h14 => ?_) (fun h14 => ?_)
    · skip
      exact absurd h14 (by omega)
    · skip
      refine go_iload_n (y := mX11_writesName) (pc := 17) dX11_writesName_17 rfl rfl ?_
      refine go_bipush (y := mX11_writesName) (pc := 18) dX11_writesName_18 (by decide) ?_
      refine go_imul (y := mX11_writesName) (pc := 20) dX11_writesName_20 ?_
      refine go_top (b := 27) ((by decide)) (fun t20 => ?_)
      refine go_istore_n (y := mX11_writesName) (pc := 21) dX11_writesName_21 rfl (by decide) ?_
      refine go_goto (y := mX11_writesName) (pc := 22) (tgt := 9) dX11_writesName_22 (by decide) ?_
      refine go_iload_n (y := mX11_writesName) (pc := 9) dX11_writesName_9 rfl rfl ?_
      refine go_iload_n (y := mX11_writesName) (pc := 10) dX11_writesName_10 rfl rfl ?_
      refine go_bipush (y := mX11_writesName) (pc := 11) dX11_writesName_11 (by decide) ?_
      refine go_idiv (y := mX11_writesName) (pc := 13) dX11_writesName_13 (by omega) (by omega) (by omega) ?_
      refine go_top (b := N / 27) ((Int.tdiv_eq_ediv_of_nonneg (by omega))) (fun t13 => ?_)
      refine go_icmp_gt (y := mX11_writesName) (pc := 14) (tgt := 25) dX11_writesName_14 (by decide) (by omega) (by omega) (fun h14 => ?_) (fun h14 => ?_)
      · skip
        exact absurd h14 (by omega)
      · skip
        refine go_iload_n (y := mX11_writesName) (pc := 17) dX11_writesName_17 rfl rfl ?_
        refine go_bipush (y := mX11_writesName) (pc := 18) dX11_writesName_18 (by decide) ?_
        refine go_imul (y := mX11_writesName) (pc := 20) dX11_writesName_20 ?_
        refine go_top (b := 729) ((by decide)) (fun t20 => ?_)
        refine go_istore_n (y := mX11_writesName) (pc := 21) dX11_writesName_21 rfl (by decide) ?_
        refine go_goto (y := mX11_writesName) (pc := 22) (tgt := 9) dX11_writesName_22 (by decide) ?_
        refine go_iload_n (y := mX11_writesName) (pc := 9) dX11_writesName_9 rfl rfl ?_
        refine go_iload_n (y := mX11_writesName) (pc := 10) dX11_writesName_10 rfl rfl ?_
        refine go_bipush (y := mX11_writesName) (pc := 11) dX11_writesName_11 (by decide) ?_
        refine go_idiv (y := mX11_writesName) (pc := 13) dX11_writesName_13 (by omega) (by omega) (by omega) ?_
        refine go_top (b := N / 27) ((Int.tdiv_eq_ediv_of_nonneg (by omega))) (fun t13 => ?_)
        refine go_icmp_gt (y := mX11_writesName) (pc := 14) (tgt := 25) dX11_writesName_14 (by decide) (by omega) (by omega) (fun h14 => ?_) (fun h14 => ?_)
        · skip
          exact absurd h14 (by omega)
        · skip
          refine go_iload_n (y := mX11_writesName) (pc := 17) dX11_writesName_17 rfl rfl ?_
          refine go_bipush (y := mX11_writesName) (pc := 18) dX11_writesName_18 (by decide) ?_
          refine go_imul (y := mX11_writesName) (pc := 20) dX11_writesName_20 ?_
          refine go_top (b := 19683) ((by decide)) (fun t20 => ?_)
          refine go_istore_n (y := mX11_writesName) (pc := 21) dX11_writesName_21 rfl (by decide) ?_
          refine go_goto (y := mX11_writesName) (pc := 22) (tgt := 9) dX11_writesName_22 (by decide) ?_
          refine go_iload_n (y := mX11_writesName) (pc := 9) dX11_writesName_9 rfl rfl ?_
          refine go_iload_n (y := mX11_writesName) (pc := 10) dX11_writesName_10 rfl rfl ?_
          refine go_bipush (y := mX11_writesName) (pc := 11) dX11_writesName_11 (by decide) ?_
          refine go_idiv (y := mX11_writesName) (pc := 13) dX11_writesName_13 (by omega) (by omega) (by omega) ?_
          refine go_top (b := N / 27) ((Int.tdiv_eq_ediv_of_nonneg (by omega))) (fun t13 => ?_)
          refine go_icmp_gt (y := mX11_writesName) (pc := 14) (tgt := 25) dX11_writesName_14 (by decide) (by omega) (by omega) (fun h14 => ?_) (fun h14 => ?_)
          · skip
            exact absurd h14 (by omega)
          · skip
            refine go_iload_n (y := mX11_writesName) (pc := 17) dX11_writesName_17 rfl rfl ?_
            refine go_bipush (y := mX11_writesName) (pc := 18) dX11_writesName_18 (by decide) ?_
            refine go_imul (y := mX11_writesName) (pc := 20) dX11_writesName_20 ?_
            refine go_top (b := 531441) ((by decide)) (fun t20 => ?_)
            refine go_istore_n (y := mX11_writesName) (pc := 21) dX11_writesName_21 rfl (by decide) ?_
            refine go_goto (y := mX11_writesName) (pc := 22) (tgt := 9) dX11_writesName_22 (by decide) ?_
            refine go_iload_n (y := mX11_writesName) (pc := 9) dX11_writesName_9 rfl rfl ?_
            refine go_iload_n (y := mX11_writesName) (pc := 10) dX11_writesName_10 rfl rfl ?_
            refine go_bipush (y := mX11_writesName) (pc := 11) dX11_writesName_11 (by decide) ?_
            refine go_idiv (y := mX11_writesName) (pc := 13) dX11_writesName_13 (by omega) (by omega) (by omega) ?_
            refine go_top (b := N / 27) ((Int.tdiv_eq_ediv_of_nonneg (by omega))) (fun t13 => ?_)
            refine go_icmp_gt (y := mX11_writesName) (pc := 14) (tgt := 25) dX11_writesName_14 (by decide) (by omega) (by omega) (fun h14 => ?_) (fun h14 => ?_)
            · skip
              skip
              refine go_iload_n (y := mX11_writesName) (pc := 25) dX11_writesName_25 rfl rfl ?_
              refine go_istore (y := mX11_writesName) (pc := 26) dX11_writesName_26 (by decide) ?_
              refine go_iload (y := mX11_writesName) (pc := 28) dX11_writesName_28 rfl ?_
              refine go_if_le (y := mX11_writesName) (pc := 30) (tgt := 57) dX11_writesName_30 (by decide) (by omega) (fun h30 => ?_) (fun h30 => ?_)
              · skip
                exact absurd h30 (by omega)
              · skip
                refine go_aload_n (y := mX11_writesName) (pc := 33) dX11_writesName_33 rfl rfl ?_
                refine go_bipush (y := mX11_writesName) (pc := 34) dX11_writesName_34 (by decide) ?_
                refine go_iload_n (y := mX11_writesName) (pc := 36) dX11_writesName_36 rfl rfl ?_
                refine go_iload (y := mX11_writesName) (pc := 37) dX11_writesName_37 rfl ?_
                refine go_idiv (y := mX11_writesName) (pc := 39) dX11_writesName_39 (by omega) (by omega) (by omega) ?_
                refine go_top (b := N / 531441) ((by rw [Int.tdiv_eq_ediv_of_nonneg (by omega)])) (fun t39 => ?_)
                refine go_bipush (y := mX11_writesName) (pc := 40) dX11_writesName_40 (by decide) ?_
                refine go_irem (y := mX11_writesName) (pc := 42) dX11_writesName_42 (by omega) (by omega) (by omega) ?_
                skip
                refine go_iadd (y := mX11_writesName) (pc := 43) dX11_writesName_43 ?_
                refine go_top (b := 96 + N / 531441 % 27) ((by rw [Int.tdiv_eq_ediv_of_nonneg (by omega)]; omega)) (fun t43 => ?_)
                refine go_callV1 (y := mX11_writesName) (pc := 44) (y' := mX11_writes) (kc2 := 0) (ks2 := 0) dX11_writesName_44 ml_X11_403 ok_X11_writes (show shp 276 = _ from rfl) ⟨_, _, rfl⟩ (by decide) rfl (by decide) (Nat.le_of_ble_eq_true rfl) rfl (m_writes (by unfold rng; omega) hO (by first | omega | (simp only [List.length_append, List.length_cons, List.length_nil]; omega)) (fun σ4 o4 w4 => ?_))
                refine go_iload (y := mX11_writesName) (pc := 47) dX11_writesName_47 rfl ?_
                refine go_bipush (y := mX11_writesName) (pc := 49) dX11_writesName_49 (by decide) ?_
                refine go_idiv (y := mX11_writesName) (pc := 51) dX11_writesName_51 (by omega) (by omega) (by omega) ?_
                refine go_top (b := 19683) ((by decide)) (fun t51 => ?_)
                refine go_istore (y := mX11_writesName) (pc := 52) dX11_writesName_52 (by decide) ?_
                refine go_goto (y := mX11_writesName) (pc := 54) (tgt := 28) dX11_writesName_54 (by decide) ?_
                refine go_iload (y := mX11_writesName) (pc := 28) dX11_writesName_28 rfl ?_
                refine go_if_le (y := mX11_writesName) (pc := 30) (tgt := 57) dX11_writesName_30 (by decide) (by omega) (fun h30 => ?_) (fun h30 => ?_)
                · skip
                  exact absurd h30 (by omega)
                · skip
                  refine go_aload_n (y := mX11_writesName) (pc := 33) dX11_writesName_33 rfl rfl ?_
                  refine go_bipush (y := mX11_writesName) (pc := 34) dX11_writesName_34 (by decide) ?_
                  refine go_iload_n (y := mX11_writesName) (pc := 36) dX11_writesName_36 rfl rfl ?_
                  refine go_iload (y := mX11_writesName) (pc := 37) dX11_writesName_37 rfl ?_
                  refine go_idiv (y := mX11_writesName) (pc := 39) dX11_writesName_39 (by omega) (by omega) (by omega) ?_
                  refine go_top (b := N / 19683) ((by rw [Int.tdiv_eq_ediv_of_nonneg (by omega)])) (fun t39 => ?_)
                  refine go_bipush (y := mX11_writesName) (pc := 40) dX11_writesName_40 (by decide) ?_
                  refine go_irem (y := mX11_writesName) (pc := 42) dX11_writesName_42 (by omega) (by omega) (by omega) ?_
                  skip
                  refine go_iadd (y := mX11_writesName) (pc := 43) dX11_writesName_43 ?_
                  refine go_top (b := 96 + N / 19683 % 27) ((by rw [Int.tdiv_eq_ediv_of_nonneg (by omega)]; omega)) (fun t43 => ?_)
                  refine go_callV1 (y := mX11_writesName) (pc := 44) (y' := mX11_writes) (kc2 := 0) (ks2 := 0) dX11_writesName_44 ml_X11_403 ok_X11_writes (show shp 276 = _ from rfl) ⟨_, _, rfl⟩ (by decide) rfl (by decide) (Nat.le_of_ble_eq_true rfl) rfl (m_writes (by unfold rng; omega) o4 (by first | omega | (simp only [List.length_append, List.length_cons, List.length_nil]; omega)) (fun σ3 o3 w3 => ?_))
                  refine go_iload (y := mX11_writesName) (pc := 47) dX11_writesName_47 rfl ?_
                  refine go_bipush (y := mX11_writesName) (pc := 49) dX11_writesName_49 (by decide) ?_
                  refine go_idiv (y := mX11_writesName) (pc := 51) dX11_writesName_51 (by omega) (by omega) (by omega) ?_
                  refine go_top (b := 729) ((by decide)) (fun t51 => ?_)
                  refine go_istore (y := mX11_writesName) (pc := 52) dX11_writesName_52 (by decide) ?_
                  refine go_goto (y := mX11_writesName) (pc := 54) (tgt := 28) dX11_writesName_54 (by decide) ?_
                  refine go_iload (y := mX11_writesName) (pc := 28) dX11_writesName_28 rfl ?_
                  refine go_if_le (y := mX11_writesName) (pc := 30) (tgt := 57) dX11_writesName_30 (by decide) (by omega) (fun h30 => ?_) (fun h30 => ?_)
                  · skip
                    exact absurd h30 (by omega)
                  · skip
                    refine go_aload_n (y := mX11_writesName) (pc := 33) dX11_writesName_33 rfl rfl ?_
                    refine go_bipush (y := mX11_writesName) (pc := 34) dX11_writesName_34 (by decide) ?_
                    refine go_iload_n (y := mX11_writesName) (pc := 36) dX11_writesName_36 rfl rfl ?_
                    refine go_iload (y := mX11_writesName) (pc := 37) dX11_writesName_37 rfl ?_
                    refine go_idiv (y := mX11_writesName) (pc := 39) dX11_writesName_39 (by omega) (by omega) (by omega) ?_
                    refine go_top (b := N / 729) ((by rw [Int.tdiv_eq_ediv_of_nonneg (by omega)])) (fun t39 => ?_)
                    refine go_bipush (y := mX11_writesName) (pc := 40) dX11_writesName_40 (by decide) ?_
                    refine go_irem (y := mX11_writesName) (pc := 42) dX11_writesName_42 (by omega) (by omega) (by omega) ?_
                    skip
                    refine go_iadd (y := mX11_writesName) (pc := 43) dX11_writesName_43 ?_
                    refine go_top (b := 96 + N / 729 % 27) ((by rw [Int.tdiv_eq_ediv_of_nonneg (by omega)]; omega)) (fun t43 => ?_)
                    refine go_callV1 (y := mX11_writesName) (pc := 44) (y' := mX11_writes) (kc2 := 0) (ks2 := 0) dX11_writesName_44 ml_X11_403 ok_X11_writes (show shp 276 = _ from rfl) ⟨_, _, rfl⟩ (by decide) rfl (by decide) (Nat.le_of_ble_eq_true rfl) rfl (m_writes (by unfold rng; omega) o3 (by first | omega | (simp only [List.length_append, List.length_cons, List.length_nil]; omega)) (fun σ2 o2 w2 => ?_))
                    refine go_iload (y := mX11_writesName) (pc := 47) dX11_writesName_47 rfl ?_
                    refine go_bipush (y := mX11_writesName) (pc := 49) dX11_writesName_49 (by decide) ?_
                    refine go_idiv (y := mX11_writesName) (pc := 51) dX11_writesName_51 (by omega) (by omega) (by omega) ?_
                    refine go_top (b := 27) ((by decide)) (fun t51 => ?_)
                    refine go_istore (y := mX11_writesName) (pc := 52) dX11_writesName_52 (by decide) ?_
                    refine go_goto (y := mX11_writesName) (pc := 54) (tgt := 28) dX11_writesName_54 (by decide) ?_
                    refine go_iload (y := mX11_writesName) (pc := 28) dX11_writesName_28 rfl ?_
                    refine go_if_le (y := mX11_writesName) (pc := 30) (tgt := 57) dX11_writesName_30 (by decide) (by omega) (fun h30 => ?_) (fun h30 => ?_)
                    · skip
                      exact absurd h30 (by omega)
                    · skip
                      refine go_aload_n (y := mX11_writesName) (pc := 33) dX11_writesName_33 rfl rfl ?_
                      refine go_bipush (y := mX11_writesName) (pc := 34) dX11_writesName_34 (by decide) ?_
                      refine go_iload_n (y := mX11_writesName) (pc := 36) dX11_writesName_36 rfl rfl ?_
                      refine go_iload (y := mX11_writesName) (pc := 37) dX11_writesName_37 rfl ?_
                      refine go_idiv (y := mX11_writesName) (pc := 39) dX11_writesName_39 (by omega) (by omega) (by omega) ?_
                      refine go_top (b := N / 27) ((by rw [Int.tdiv_eq_ediv_of_nonneg (by omega)])) (fun t39 => ?_)
                      refine go_bipush (y := mX11_writesName) (pc := 40) dX11_writesName_40 (by decide) ?_
                      refine go_irem (y := mX11_writesName) (pc := 42) dX11_writesName_42 (by omega) (by omega) (by omega) ?_
                      skip
                      refine go_iadd (y := mX11_writesName) (pc := 43) dX11_writesName_43 ?_
                      refine go_top (b := 96 + N / 27 % 27) ((by rw [Int.tdiv_eq_ediv_of_nonneg (by omega)]; omega)) (fun t43 => ?_)
                      refine go_callV1 (y := mX11_writesName) (pc := 44) (y' := mX11_writes) (kc2 := 0) (ks2 := 0) dX11_writesName_44 ml_X11_403 ok_X11_writes (show shp 276 = _ from rfl) ⟨_, _, rfl⟩ (by decide) rfl (by decide) (Nat.le_of_ble_eq_true rfl) rfl (m_writes (by unfold rng; omega) o2 (by first | omega | (simp only [List.length_append, List.length_cons, List.length_nil]; omega)) (fun σ1 o1 w1 => ?_))
                      refine go_iload (y := mX11_writesName) (pc := 47) dX11_writesName_47 rfl ?_
                      refine go_bipush (y := mX11_writesName) (pc := 49) dX11_writesName_49 (by decide) ?_
                      refine go_idiv (y := mX11_writesName) (pc := 51) dX11_writesName_51 (by omega) (by omega) (by omega) ?_
                      refine go_top (b := 1) ((by decide)) (fun t51 => ?_)
                      refine go_istore (y := mX11_writesName) (pc := 52) dX11_writesName_52 (by decide) ?_
                      refine go_goto (y := mX11_writesName) (pc := 54) (tgt := 28) dX11_writesName_54 (by decide) ?_
                      refine go_iload (y := mX11_writesName) (pc := 28) dX11_writesName_28 rfl ?_
                      refine go_if_le (y := mX11_writesName) (pc := 30) (tgt := 57) dX11_writesName_30 (by decide) (by omega) (fun h30 => ?_) (fun h30 => ?_)
                      · skip
                        exact absurd h30 (by omega)
                      · skip
                        refine go_aload_n (y := mX11_writesName) (pc := 33) dX11_writesName_33 rfl rfl ?_
                        refine go_bipush (y := mX11_writesName) (pc := 34) dX11_writesName_34 (by decide) ?_
                        refine go_iload_n (y := mX11_writesName) (pc := 36) dX11_writesName_36 rfl rfl ?_
                        refine go_iload (y := mX11_writesName) (pc := 37) dX11_writesName_37 rfl ?_
                        refine go_idiv (y := mX11_writesName) (pc := 39) dX11_writesName_39 (by omega) (by omega) (by omega) ?_
                        refine go_top (b := N) ((by rw [Int.tdiv_eq_ediv_of_nonneg (by omega)]; omega)) (fun t39 => ?_)
                        refine go_bipush (y := mX11_writesName) (pc := 40) dX11_writesName_40 (by decide) ?_
                        refine go_irem (y := mX11_writesName) (pc := 42) dX11_writesName_42 (by omega) (by omega) (by omega) ?_
                        skip
                        refine go_iadd (y := mX11_writesName) (pc := 43) dX11_writesName_43 ?_
                        refine go_top (b := 96 + N % 27) ((by rw [Int.tdiv_eq_ediv_of_nonneg (by omega)]; omega)) (fun t43 => ?_)
                        refine go_callV1 (y := mX11_writesName) (pc := 44) (y' := mX11_writes) (kc2 := 0) (ks2 := 0) dX11_writesName_44 ml_X11_403 ok_X11_writes (show shp 276 = _ from rfl) ⟨_, _, rfl⟩ (by decide) rfl (by decide) (Nat.le_of_ble_eq_true rfl) rfl (m_writes (by unfold rng; omega) o1 (by first | omega | (simp only [List.length_append, List.length_cons, List.length_nil]; omega)) (fun σ0 o0 w0 => ?_))
                        refine go_iload (y := mX11_writesName) (pc := 47) dX11_writesName_47 rfl ?_
                        refine go_bipush (y := mX11_writesName) (pc := 49) dX11_writesName_49 (by decide) ?_
                        refine go_idiv (y := mX11_writesName) (pc := 51) dX11_writesName_51 (by omega) (by omega) (by omega) ?_
                        refine go_top (b := 0) ((by decide)) (fun t51 => ?_)
                        refine go_istore (y := mX11_writesName) (pc := 52) dX11_writesName_52 (by decide) ?_
                        refine go_goto (y := mX11_writesName) (pc := 54) (tgt := 28) dX11_writesName_54 (by decide) ?_
                        refine go_iload (y := mX11_writesName) (pc := 28) dX11_writesName_28 rfl ?_
                        refine go_if_le (y := mX11_writesName) (pc := 30) (tgt := 57) dX11_writesName_30 (by decide) (by omega) (fun h30 => ?_) (fun h30 => ?_)
                        · skip
                          refine go_return (y := mX11_writesName) (pc := 57) dX11_writesName_57 rfl ?_
                          exact K σ0 o0 (smW_t w0 (smW_t w1 (smW_t w2 (smW_t w3 w4))))
                        · skip
                          exact absurd h30 (by decide)
            · skip
              exact absurd h14 (by omega)
  · skip
    have d2 : 14348907 ≤ N := d2
    have d3 : N < 387420489 := d3
    have rN : rng N := by unfold rng; omega
    have eL : l ++ nml 6 (S 1 m) = l ++ [96 + N / 14348907 % 27] ++ [96 + N / 531441 % 27] ++ [96 + N / 19683 % 27] ++ [96 + N / 729 % 27] ++ [96 + N / 27 % 27] ++ [96 + N % 27] := by
      rw [← d4]
      simp only [ml27, List.nil_append, List.append_assoc]
      rw [show N / 27 / 27 / 27 / 27 / 27 = N / 14348907 by omega]
      rw [show N / 27 / 27 / 27 / 27 = N / 531441 by omega]
      rw [show N / 27 / 27 / 27 = N / 19683 by omega]
      rw [show N / 27 / 27 = N / 729 by omega]
    rw [eL] at K
    refine go_aload_n (y := mX11_writesName) (pc := 0) dX11_writesName_0 rfl rfl ?_
    refine go_iload_n (y := mX11_writesName) (pc := 1) dX11_writesName_1 rfl rfl ?_
    refine go_iconst (y := mX11_writesName) (pc := 2) dX11_writesName_2 ?_
    refine go_callV2 (y := mX11_writesName) (pc := 3) (y' := mX11_of) (kc2 := 0) (ks2 := 0) dX11_writesName_3 ml_X11_100 ok_X11_of (show shp 276 = _ from rfl) ⟨_, _, rfl⟩ (by decide) ⟨rfl, rfl⟩ (by decide) (Nat.le_of_ble_eq_true rfl) rfl (m_of (m := m) (w := 0) (by omega) (by decide) (fun v3 e3 r3 => ?_))
    have e9 : v3 = N := by rw [e3, eN]; exact rlN hr hm
    rw [e9]
    refine go_istore_n (y := mX11_writesName) (pc := 6) dX11_writesName_6 rfl (by decide) ?_
    refine go_iconst (y := mX11_writesName) (pc := 7) dX11_writesName_7 ?_
    refine go_istore_n (y := mX11_writesName) (pc := 8) dX11_writesName_8 rfl (by decide) ?_
    refine go_iload_n (y := mX11_writesName) (pc := 9) dX11_writesName_9 rfl rfl ?_
    refine go_iload_n (y := mX11_writesName) (pc := 10) dX11_writesName_10 rfl rfl ?_
    refine go_bipush (y := mX11_writesName) (pc := 11) dX11_writesName_11 (by decide) ?_
    refine go_idiv (y := mX11_writesName) (pc := 13) dX11_writesName_13 (by omega) (by omega) (by omega) ?_
    refine go_top (b := N / 27) ((Int.tdiv_eq_ediv_of_nonneg (by omega))) (fun t13 => ?_)
    refine go_icmp_gt (y := mX11_writesName) (pc := 14) (tgt := 25) dX11_writesName_14 (by decide) (by omega) (by omega) (fun h14 => ?_) (fun h14 => ?_)
    · skip
      exact absurd h14 (by omega)
    · skip
      refine go_iload_n (y := mX11_writesName) (pc := 17) dX11_writesName_17 rfl rfl ?_
      refine go_bipush (y := mX11_writesName) (pc := 18) dX11_writesName_18 (by decide) ?_
      refine go_imul (y := mX11_writesName) (pc := 20) dX11_writesName_20 ?_
      refine go_top (b := 27) ((by decide)) (fun t20 => ?_)
      refine go_istore_n (y := mX11_writesName) (pc := 21) dX11_writesName_21 rfl (by decide) ?_
      refine go_goto (y := mX11_writesName) (pc := 22) (tgt := 9) dX11_writesName_22 (by decide) ?_
      refine go_iload_n (y := mX11_writesName) (pc := 9) dX11_writesName_9 rfl rfl ?_
      refine go_iload_n (y := mX11_writesName) (pc := 10) dX11_writesName_10 rfl rfl ?_
      refine go_bipush (y := mX11_writesName) (pc := 11) dX11_writesName_11 (by decide) ?_
      refine go_idiv (y := mX11_writesName) (pc := 13) dX11_writesName_13 (by omega) (by omega) (by omega) ?_
      refine go_top (b := N / 27) ((Int.tdiv_eq_ediv_of_nonneg (by omega))) (fun t13 => ?_)
      refine go_icmp_gt (y := mX11_writesName) (pc := 14) (tgt := 25) dX11_writesName_14 (by decide) (by omega) (by omega) (fun h14 => ?_) (fun h14 => ?_)
      · skip
        exact absurd h14 (by omega)
      · skip
        refine go_iload_n (y := mX11_writesName) (pc := 17) dX11_writesName_17 rfl rfl ?_
        refine go_bipush (y := mX11_writesName) (pc := 18) dX11_writesName_18 (by decide) ?_
        refine go_imul (y := mX11_writesName) (pc := 20) dX11_writesName_20 ?_
        refine go_top (b := 729) ((by decide)) (fun t20 => ?_)
        refine go_istore_n (y := mX11_writesName) (pc := 21) dX11_writesName_21 rfl (by decide) ?_
        refine go_goto (y := mX11_writesName) (pc := 22) (tgt := 9) dX11_writesName_22 (by decide) ?_
        refine go_iload_n (y := mX11_writesName) (pc := 9) dX11_writesName_9 rfl rfl ?_
        refine go_iload_n (y := mX11_writesName) (pc := 10) dX11_writesName_10 rfl rfl ?_
        refine go_bipush (y := mX11_writesName) (pc := 11) dX11_writesName_11 (by decide) ?_
        refine go_idiv (y := mX11_writesName) (pc := 13) dX11_writesName_13 (by omega) (by omega) (by omega) ?_
        refine go_top (b := N / 27) ((Int.tdiv_eq_ediv_of_nonneg (by omega))) (fun t13 => ?_)
        refine go_icmp_gt (y := mX11_writesName) (pc := 14) (tgt := 25) dX11_writesName_14 (by decide) (by omega) (by omega) (fun h14 => ?_) (fun h14 => ?_)
        · skip
          exact absurd h14 (by omega)
        · skip
          refine go_iload_n (y := mX11_writesName) (pc := 17) dX11_writesName_17 rfl rfl ?_
          refine go_bipush (y := mX11_writesName) (pc := 18) dX11_writesName_18 (by decide) ?_
          refine go_imul (y := mX11_writesName) (pc := 20) dX11_writesName_20 ?_
          refine go_top (b := 19683) ((by decide)) (fun t20 => ?_)
          refine go_istore_n (y := mX11_writesName) (pc := 21) dX11_writesName_21 rfl (by decide) ?_
          refine go_goto (y := mX11_writesName) (pc := 22) (tgt := 9) dX11_writesName_22 (by decide) ?_
          refine go_iload_n (y := mX11_writesName) (pc := 9) dX11_writesName_9 rfl rfl ?_
          refine go_iload_n (y := mX11_writesName) (pc := 10) dX11_writesName_10 rfl rfl ?_
          refine go_bipush (y := mX11_writesName) (pc := 11) dX11_writesName_11 (by decide) ?_
          refine go_idiv (y := mX11_writesName) (pc := 13) dX11_writesName_13 (by omega) (by omega) (by omega) ?_
          refine go_top (b := N / 27) ((Int.tdiv_eq_ediv_of_nonneg (by omega))) (fun t13 => ?_)
          refine go_icmp_gt (y := mX11_writesName) (pc := 14) (tgt := 25) dX11_writesName_14 (by decide) (by omega) (by omega) (fun h14 => ?_) (fun h14 => ?_)
          · skip
            exact absurd h14 (by omega)
          · skip
            refine go_iload_n (y := mX11_writesName) (pc := 17) dX11_writesName_17 rfl rfl ?_
            refine go_bipush (y := mX11_writesName) (pc := 18) dX11_writesName_18 (by decide) ?_
            refine go_imul (y := mX11_writesName) (pc := 20) dX11_writesName_20 ?_
            refine go_top (b := 531441) ((by decide)) (fun t20 => ?_)
            refine go_istore_n (y := mX11_writesName) (pc := 21) dX11_writesName_21 rfl (by decide) ?_
            refine go_goto (y := mX11_writesName) (pc := 22) (tgt := 9) dX11_writesName_22 (by decide) ?_
            refine go_iload_n (y := mX11_writesName) (pc := 9) dX11_writesName_9 rfl rfl ?_
            refine go_iload_n (y := mX11_writesName) (pc := 10) dX11_writesName_10 rfl rfl ?_
            refine go_bipush (y := mX11_writesName) (pc := 11) dX11_writesName_11 (by decide) ?_
            refine go_idiv (y := mX11_writesName) (pc := 13) dX11_writesName_13 (by omega) (by omega) (by omega) ?_
            refine go_top (b := N / 27) ((Int.tdiv_eq_ediv_of_nonneg (by omega))) (fun t13 => ?_)
            refine go_icmp_gt (y := mX11_writesName) (pc := 14) (tgt := 25) dX11_writesName_14 (by decide) (by omega) (by omega) (fun h14 => ?_) (fun h14 => ?_)
            · skip
              exact absurd h14 (by omega)
            · skip
              refine go_iload_n (y := mX11_writesName) (pc := 17) dX11_writesName_17 rfl rfl ?_
              refine go_bipush (y := mX11_writesName) (pc := 18) dX11_writesName_18 (by decide) ?_
              refine go_imul (y := mX11_writesName) (pc := 20) dX11_writesName_20 ?_
              refine go_top (b := 14348907) ((by decide)) (fun t20 => ?_)
              refine go_istore_n (y := mX11_writesName) (pc := 21) dX11_writesName_21 rfl (by decide) ?_
              refine go_goto (y := mX11_writesName) (pc := 22) (tgt := 9) dX11_writesName_22 (by decide) ?_
              refine go_iload_n (y := mX11_writesName) (pc := 9) dX11_writesName_9 rfl rfl ?_
              refine go_iload_n (y := mX11_writesName) (pc := 10) dX11_writesName_10 rfl rfl ?_
              refine go_bipush (y := mX11_writesName) (pc := 11) dX11_writesName_11 (by decide) ?_
              refine go_idiv (y := mX11_writesName) (pc := 13) dX11_writesName_13 (by omega) (by omega) (by omega) ?_
              refine go_top (b := N / 27) ((Int.tdiv_eq_ediv_of_nonneg (by omega))) (fun t13 => ?_)
              refine go_icmp_gt (y := mX11_writesName) (pc := 14) (tgt := 25) dX11_writesName_14 (by decide) (by omega) (by omega) (fun h14 => ?_) (fun h14 => ?_)
              · skip
                skip
                refine go_iload_n (y := mX11_writesName) (pc := 25) dX11_writesName_25 rfl rfl ?_
                refine go_istore (y := mX11_writesName) (pc := 26) dX11_writesName_26 (by decide) ?_
                refine go_iload (y := mX11_writesName) (pc := 28) dX11_writesName_28 rfl ?_
                refine go_if_le (y := mX11_writesName) (pc := 30) (tgt := 57) dX11_writesName_30 (by decide) (by omega) (fun h30 => ?_) (fun h30 => ?_)
                · skip
                  exact absurd h30 (by omega)
                · skip
                  refine go_aload_n (y := mX11_writesName) (pc := 33) dX11_writesName_33 rfl rfl ?_
                  refine go_bipush (y := mX11_writesName) (pc := 34) dX11_writesName_34 (by decide) ?_
                  refine go_iload_n (y := mX11_writesName) (pc := 36) dX11_writesName_36 rfl rfl ?_
                  refine go_iload (y := mX11_writesName) (pc := 37) dX11_writesName_37 rfl ?_
                  refine go_idiv (y := mX11_writesName) (pc := 39) dX11_writesName_39 (by omega) (by omega) (by omega) ?_
                  refine go_top (b := N / 14348907) ((by rw [Int.tdiv_eq_ediv_of_nonneg (by omega)])) (fun t39 => ?_)
                  refine go_bipush (y := mX11_writesName) (pc := 40) dX11_writesName_40 (by decide) ?_
                  refine go_irem (y := mX11_writesName) (pc := 42) dX11_writesName_42 (by omega) (by omega) (by omega) ?_
                  skip
                  refine go_iadd (y := mX11_writesName) (pc := 43) dX11_writesName_43 ?_
                  refine go_top (b := 96 + N / 14348907 % 27) ((by rw [Int.tdiv_eq_ediv_of_nonneg (by omega)]; omega)) (fun t43 => ?_)
                  refine go_callV1 (y := mX11_writesName) (pc := 44) (y' := mX11_writes) (kc2 := 0) (ks2 := 0) dX11_writesName_44 ml_X11_403 ok_X11_writes (show shp 276 = _ from rfl) ⟨_, _, rfl⟩ (by decide) rfl (by decide) (Nat.le_of_ble_eq_true rfl) rfl (m_writes (by unfold rng; omega) hO (by first | omega | (simp only [List.length_append, List.length_cons, List.length_nil]; omega)) (fun σ5 o5 w5 => ?_))
                  refine go_iload (y := mX11_writesName) (pc := 47) dX11_writesName_47 rfl ?_
                  refine go_bipush (y := mX11_writesName) (pc := 49) dX11_writesName_49 (by decide) ?_
                  refine go_idiv (y := mX11_writesName) (pc := 51) dX11_writesName_51 (by omega) (by omega) (by omega) ?_
                  refine go_top (b := 531441) ((by decide)) (fun t51 => ?_)
                  refine go_istore (y := mX11_writesName) (pc := 52) dX11_writesName_52 (by decide) ?_
                  refine go_goto (y := mX11_writesName) (pc := 54) (tgt := 28) dX11_writesName_54 (by decide) ?_
                  refine go_iload (y := mX11_writesName) (pc := 28) dX11_writesName_28 rfl ?_
                  refine go_if_le (y := mX11_writesName) (pc := 30) (tgt := 57) dX11_writesName_30 (by decide) (by omega) (fun h30 => ?_) (fun h30 => ?_)
                  · skip
                    exact absurd h30 (by omega)
                  · skip
                    refine go_aload_n (y := mX11_writesName) (pc := 33) dX11_writesName_33 rfl rfl ?_
                    refine go_bipush (y := mX11_writesName) (pc := 34) dX11_writesName_34 (by decide) ?_
                    refine go_iload_n (y := mX11_writesName) (pc := 36) dX11_writesName_36 rfl rfl ?_
                    refine go_iload (y := mX11_writesName) (pc := 37) dX11_writesName_37 rfl ?_
                    refine go_idiv (y := mX11_writesName) (pc := 39) dX11_writesName_39 (by omega) (by omega) (by omega) ?_
                    refine go_top (b := N / 531441) ((by rw [Int.tdiv_eq_ediv_of_nonneg (by omega)])) (fun t39 => ?_)
                    refine go_bipush (y := mX11_writesName) (pc := 40) dX11_writesName_40 (by decide) ?_
                    refine go_irem (y := mX11_writesName) (pc := 42) dX11_writesName_42 (by omega) (by omega) (by omega) ?_
                    skip
                    refine go_iadd (y := mX11_writesName) (pc := 43) dX11_writesName_43 ?_
                    refine go_top (b := 96 + N / 531441 % 27) ((by rw [Int.tdiv_eq_ediv_of_nonneg (by omega)]; omega)) (fun t43 => ?_)
                    refine go_callV1 (y := mX11_writesName) (pc := 44) (y' := mX11_writes) (kc2 := 0) (ks2 := 0) dX11_writesName_44 ml_X11_403 ok_X11_writes (show shp 276 = _ from rfl) ⟨_, _, rfl⟩ (by decide) rfl (by decide) (Nat.le_of_ble_eq_true rfl) rfl (m_writes (by unfold rng; omega) o5 (by first | omega | (simp only [List.length_append, List.length_cons, List.length_nil]; omega)) (fun σ4 o4 w4 => ?_))
                    refine go_iload (y := mX11_writesName) (pc := 47) dX11_writesName_47 rfl ?_
                    refine go_bipush (y := mX11_writesName) (pc := 49) dX11_writesName_49 (by decide) ?_
                    refine go_idiv (y := mX11_writesName) (pc := 51) dX11_writesName_51 (by omega) (by omega) (by omega) ?_
                    refine go_top (b := 19683) ((by decide)) (fun t51 => ?_)
                    refine go_istore (y := mX11_writesName) (pc := 52) dX11_writesName_52 (by decide) ?_
                    refine go_goto (y := mX11_writesName) (pc := 54) (tgt := 28) dX11_writesName_54 (by decide) ?_
                    refine go_iload (y := mX11_writesName) (pc := 28) dX11_writesName_28 rfl ?_
                    refine go_if_le (y := mX11_writesName) (pc := 30) (tgt := 57) dX11_writesName_30 (by decide) (by omega) (fun h30 => ?_) (fun h30 => ?_)
                    · skip
                      exact absurd h30 (by omega)
                    · skip
                      refine go_aload_n (y := mX11_writesName) (pc := 33) dX11_writesName_33 rfl rfl ?_
                      refine go_bipush (y := mX11_writesName) (pc := 34) dX11_writesName_34 (by decide) ?_
                      refine go_iload_n (y := mX11_writesName) (pc := 36) dX11_writesName_36 rfl rfl ?_
                      refine go_iload (y := mX11_writesName) (pc := 37) dX11_writesName_37 rfl ?_
                      refine go_idiv (y := mX11_writesName) (pc := 39) dX11_writesName_39 (by omega) (by omega) (by omega) ?_
                      refine go_top (b := N / 19683) ((by rw [Int.tdiv_eq_ediv_of_nonneg (by omega)])) (fun t39 => ?_)
                      refine go_bipush (y := mX11_writesName) (pc := 40) dX11_writesName_40 (by decide) ?_
                      refine go_irem (y := mX11_writesName) (pc := 42) dX11_writesName_42 (by omega) (by omega) (by omega) ?_
                      skip
                      refine go_iadd (y := mX11_writesName) (pc := 43) dX11_writesName_43 ?_
                      refine go_top (b := 96 + N / 19683 % 27) ((by rw [Int.tdiv_eq_ediv_of_nonneg (by omega)]; omega)) (fun t43 => ?_)
                      refine go_callV1 (y := mX11_writesName) (pc := 44) (y' := mX11_writes) (kc2 := 0) (ks2 := 0) dX11_writesName_44 ml_X11_403 ok_X11_writes (show shp 276 = _ from rfl) ⟨_, _, rfl⟩ (by decide) rfl (by decide) (Nat.le_of_ble_eq_true rfl) rfl (m_writes (by unfold rng; omega) o4 (by first | omega | (simp only [List.length_append, List.length_cons, List.length_nil]; omega)) (fun σ3 o3 w3 => ?_))
                      refine go_iload (y := mX11_writesName) (pc := 47) dX11_writesName_47 rfl ?_
                      refine go_bipush (y := mX11_writesName) (pc := 49) dX11_writesName_49 (by decide) ?_
                      refine go_idiv (y := mX11_writesName) (pc := 51) dX11_writesName_51 (by omega) (by omega) (by omega) ?_
                      refine go_top (b := 729) ((by decide)) (fun t51 => ?_)
                      refine go_istore (y := mX11_writesName) (pc := 52) dX11_writesName_52 (by decide) ?_
                      refine go_goto (y := mX11_writesName) (pc := 54) (tgt := 28) dX11_writesName_54 (by decide) ?_
                      refine go_iload (y := mX11_writesName) (pc := 28) dX11_writesName_28 rfl ?_
                      refine go_if_le (y := mX11_writesName) (pc := 30) (tgt := 57) dX11_writesName_30 (by decide) (by omega) (fun h30 => ?_) (fun h30 => ?_)
                      · skip
                        exact absurd h30 (by omega)
                      · skip
                        refine go_aload_n (y := mX11_writesName) (pc := 33) dX11_writesName_33 rfl rfl ?_
                        refine go_bipush (y := mX11_writesName) (pc := 34) dX11_writesName_34 (by decide) ?_
                        refine go_iload_n (y := mX11_writesName) (pc := 36) dX11_writesName_36 rfl rfl ?_
                        refine go_iload (y := mX11_writesName) (pc := 37) dX11_writesName_37 rfl ?_
                        refine go_idiv (y := mX11_writesName) (pc := 39) dX11_writesName_39 (by omega) (by omega) (by omega) ?_
                        refine go_top (b := N / 729) ((by rw [Int.tdiv_eq_ediv_of_nonneg (by omega)])) (fun t39 => ?_)
                        refine go_bipush (y := mX11_writesName) (pc := 40) dX11_writesName_40 (by decide) ?_
                        refine go_irem (y := mX11_writesName) (pc := 42) dX11_writesName_42 (by omega) (by omega) (by omega) ?_
                        skip
                        refine go_iadd (y := mX11_writesName) (pc := 43) dX11_writesName_43 ?_
                        refine go_top (b := 96 + N / 729 % 27) ((by rw [Int.tdiv_eq_ediv_of_nonneg (by omega)]; omega)) (fun t43 => ?_)
                        refine go_callV1 (y := mX11_writesName) (pc := 44) (y' := mX11_writes) (kc2 := 0) (ks2 := 0) dX11_writesName_44 ml_X11_403 ok_X11_writes (show shp 276 = _ from rfl) ⟨_, _, rfl⟩ (by decide) rfl (by decide) (Nat.le_of_ble_eq_true rfl) rfl (m_writes (by unfold rng; omega) o3 (by first | omega | (simp only [List.length_append, List.length_cons, List.length_nil]; omega)) (fun σ2 o2 w2 => ?_))
                        refine go_iload (y := mX11_writesName) (pc := 47) dX11_writesName_47 rfl ?_
                        refine go_bipush (y := mX11_writesName) (pc := 49) dX11_writesName_49 (by decide) ?_
                        refine go_idiv (y := mX11_writesName) (pc := 51) dX11_writesName_51 (by omega) (by omega) (by omega) ?_
                        refine go_top (b := 27) ((by decide)) (fun t51 => ?_)
                        refine go_istore (y := mX11_writesName) (pc := 52) dX11_writesName_52 (by decide) ?_
                        refine go_goto (y := mX11_writesName) (pc := 54) (tgt := 28) dX11_writesName_54 (by decide) ?_
                        refine go_iload (y := mX11_writesName) (pc := 28) dX11_writesName_28 rfl ?_
                        refine go_if_le (y := mX11_writesName) (pc := 30) (tgt := 57) dX11_writesName_30 (by decide) (by omega) (fun h30 => ?_) (fun h30 => ?_)
                        · skip
                          exact absurd h30 (by omega)
                        · skip
                          refine go_aload_n (y := mX11_writesName) (pc := 33) dX11_writesName_33 rfl rfl ?_
                          refine go_bipush (y := mX11_writesName) (pc := 34) dX11_writesName_34 (by decide) ?_
                          refine go_iload_n (y := mX11_writesName) (pc := 36) dX11_writesName_36 rfl rfl ?_
                          refine go_iload (y := mX11_writesName) (pc := 37) dX11_writesName_37 rfl ?_
                          refine go_idiv (y := mX11_writesName) (pc := 39) dX11_writesName_39 (by omega) (by omega) (by omega) ?_
                          refine go_top (b := N / 27) ((by rw [Int.tdiv_eq_ediv_of_nonneg (by omega)])) (fun t39 => ?_)
                          refine go_bipush (y := mX11_writesName) (pc := 40) dX11_writesName_40 (by decide) ?_
                          refine go_irem (y := mX11_writesName) (pc := 42) dX11_writesName_42 (by omega) (by omega) (by omega) ?_
                          skip
                          refine go_iadd (y := mX11_writesName) (pc := 43) dX11_writesName_43 ?_
                          refine go_top (b := 96 + N / 27 % 27) ((by rw [Int.tdiv_eq_ediv_of_nonneg (by omega)]; omega)) (fun t43 => ?_)
                          refine go_callV1 (y := mX11_writesName) (pc := 44) (y' := mX11_writes) (kc2 := 0) (ks2 := 0) dX11_writesName_44 ml_X11_403 ok_X11_writes (show shp 276 = _ from rfl) ⟨_, _, rfl⟩ (by decide) rfl (by decide) (Nat.le_of_ble_eq_true rfl) rfl (m_writes (by unfold rng; omega) o2 (by first | omega | (simp only [List.length_append, List.length_cons, List.length_nil]; omega)) (fun σ1 o1 w1 => ?_))
                          refine go_iload (y := mX11_writesName) (pc := 47) dX11_writesName_47 rfl ?_
                          refine go_bipush (y := mX11_writesName) (pc := 49) dX11_writesName_49 (by decide) ?_
                          refine go_idiv (y := mX11_writesName) (pc := 51) dX11_writesName_51 (by omega) (by omega) (by omega) ?_
                          refine go_top (b := 1) ((by decide)) (fun t51 => ?_)
                          refine go_istore (y := mX11_writesName) (pc := 52) dX11_writesName_52 (by decide) ?_
                          refine go_goto (y := mX11_writesName) (pc := 54) (tgt := 28) dX11_writesName_54 (by decide) ?_
                          refine go_iload (y := mX11_writesName) (pc := 28) dX11_writesName_28 rfl ?_
                          refine go_if_le (y := mX11_writesName) (pc := 30) (tgt := 57) dX11_writesName_30 (by decide) (by omega) (fun h30 => ?_) (fun h30 => ?_)
                          · skip
                            exact absurd h30 (by omega)
                          · skip
                            refine go_aload_n (y := mX11_writesName) (pc := 33) dX11_writesName_33 rfl rfl ?_
                            refine go_bipush (y := mX11_writesName) (pc := 34) dX11_writesName_34 (by decide) ?_
                            refine go_iload_n (y := mX11_writesName) (pc := 36) dX11_writesName_36 rfl rfl ?_
                            refine go_iload (y := mX11_writesName) (pc := 37) dX11_writesName_37 rfl ?_
                            refine go_idiv (y := mX11_writesName) (pc := 39) dX11_writesName_39 (by omega) (by omega) (by omega) ?_
                            refine go_top (b := N) ((by rw [Int.tdiv_eq_ediv_of_nonneg (by omega)]; omega)) (fun t39 => ?_)
                            refine go_bipush (y := mX11_writesName) (pc := 40) dX11_writesName_40 (by decide) ?_
                            refine go_irem (y := mX11_writesName) (pc := 42) dX11_writesName_42 (by omega) (by omega) (by omega) ?_
                            skip
                            refine go_iadd (y := mX11_writesName) (pc := 43) dX11_writesName_43 ?_
                            refine go_top (b := 96 + N % 27) ((by rw [Int.tdiv_eq_ediv_of_nonneg (by omega)]; omega)) (fun t43 => ?_)
                            refine go_callV1 (y := mX11_writesName) (pc := 44) (y' := mX11_writes) (kc2 := 0) (ks2 := 0) dX11_writesName_44 ml_X11_403 ok_X11_writes (show shp 276 = _ from rfl) ⟨_, _, rfl⟩ (by decide) rfl (by decide) (Nat.le_of_ble_eq_true rfl) rfl (m_writes (by unfold rng; omega) o1 (by first | omega | (simp only [List.length_append, List.length_cons, List.length_nil]; omega)) (fun σ0 o0 w0 => ?_))
                            refine go_iload (y := mX11_writesName) (pc := 47) dX11_writesName_47 rfl ?_
                            refine go_bipush (y := mX11_writesName) (pc := 49) dX11_writesName_49 (by decide) ?_
                            refine go_idiv (y := mX11_writesName) (pc := 51) dX11_writesName_51 (by omega) (by omega) (by omega) ?_
                            refine go_top (b := 0) ((by decide)) (fun t51 => ?_)
                            refine go_istore (y := mX11_writesName) (pc := 52) dX11_writesName_52 (by decide) ?_
                            refine go_goto (y := mX11_writesName) (pc := 54) (tgt := 28) dX11_writesName_54 (by decide) ?_
                            refine go_iload (y := mX11_writesName) (pc := 28) dX11_writesName_28 rfl ?_
                            refine go_if_le (y := mX11_writesName) (pc := 30) (tgt := 57) dX11_writesName_30 (by decide) (by omega) (fun h30 => ?_) (fun h30 => ?_)
                            · skip
                              refine go_return (y := mX11_writesName) (pc := 57) dX11_writesName_57 rfl ?_
                              exact K σ0 o0 (smW_t w0 (smW_t w1 (smW_t w2 (smW_t w3 (smW_t w4 w5)))))
                            · skip
                              exact absurd h30 (by decide)
              · skip
                exact absurd h14 (by omega)
end MOut
