/-! THE OUTPUT: a number is written; its length, its letters, its emptying -/
def dgl (v : Nat) : List Int := if v < 10 then [48 + (v : Int)] else [48 + ((v / 10 : Nat) : Int), 48 + ((v % 10 : Nat) : Int)]
theorem dgl_1 {v : Nat} (h : v < 10) : dgl v = [48 + (v : Int)] := if_pos h
theorem dgl_2 {v : Nat} (h : ¬ v < 10) : dgl v = [48 + ((v / 10 : Nat) : Int), 48 + ((v % 10 : Nat) : Int)] := if_neg h
theorem dgl_n (v : Nat) : (dgl v).length = if v < 10 then 1 else 2 := by
  unfold dgl
  split <;> rfl
set_option maxRecDepth 8000 in
set_option maxHeartbeats 4000000 in
theorem sb_stringSize {μ : Mem} {v : Nat} (hv : v < 100) {Q : Option Value → Mem → Prop} {X : String → Mem → Prop} (K : Q (some (.int (iI ((dgl v).length : Nat)))) μ) : mt 276 0 0 0 mJ6_stringSize_0f7a4 [.int (iI (v : Nat))] Q X μ := by
  show go 276 0 0 0 mJ6_stringSize_0f7a4 Q X 0 [.int (iI (v : Nat)), .null, .null, .null] [] _
  refine go_iconst (y := mJ6_stringSize_0f7a4) (pc := 0) dJ6_stringSize_0f7a4_0 ?_
  refine go_istore_n (y := mJ6_stringSize_0f7a4) (pc := 1) dJ6_stringSize_0f7a4_1 rfl (by decide) ?_
  refine go_iload_n (y := mJ6_stringSize_0f7a4) (pc := 2) dJ6_stringSize_0f7a4_2 rfl rfl ?_
  refine go_if_lt (y := mJ6_stringSize_0f7a4) (pc := 3) (tgt := 11) dJ6_stringSize_0f7a4_3 (by decide) (by omega) (fun h3 => ?_) (fun h3 => ?_)
  · skip
    exact absurd h3 (by omega)
  · skip
    refine go_iconst (y := mJ6_stringSize_0f7a4) (pc := 6) dJ6_stringSize_0f7a4_6 ?_
    refine go_istore_n (y := mJ6_stringSize_0f7a4) (pc := 7) dJ6_stringSize_0f7a4_7 rfl (by decide) ?_
    refine go_iload_n (y := mJ6_stringSize_0f7a4) (pc := 8) dJ6_stringSize_0f7a4_8 rfl rfl ?_
    refine go_ineg (y := mJ6_stringSize_0f7a4) (pc := 9) dJ6_stringSize_0f7a4_9 ?_
    refine go_istore_n (y := mJ6_stringSize_0f7a4) (pc := 10) dJ6_stringSize_0f7a4_10 rfl (by decide) ?_
    refine go_bipush (y := mJ6_stringSize_0f7a4) (pc := 11) dJ6_stringSize_0f7a4_11 (by decide) ?_
    refine go_istore_n (y := mJ6_stringSize_0f7a4) (pc := 13) dJ6_stringSize_0f7a4_13 rfl (by decide) ?_
    refine go_iconst (y := mJ6_stringSize_0f7a4) (pc := 14) dJ6_stringSize_0f7a4_14 ?_
    refine go_istore_n (y := mJ6_stringSize_0f7a4) (pc := 15) dJ6_stringSize_0f7a4_15 rfl (by decide) ?_
    refine go_iload_n (y := mJ6_stringSize_0f7a4) (pc := 16) dJ6_stringSize_0f7a4_16 rfl rfl ?_
    refine go_bipush (y := mJ6_stringSize_0f7a4) (pc := 17) dJ6_stringSize_0f7a4_17 (by decide) ?_
    refine go_icmp_ge (y := mJ6_stringSize_0f7a4) (pc := 19) (tgt := 42) dJ6_stringSize_0f7a4_19 (by decide) (by omega) (by omega) (fun h19 => ?_) (fun h19 => ?_)
    · skip
      exact absurd h19 (by omega)
    · skip
      refine go_iload_n (y := mJ6_stringSize_0f7a4) (pc := 22) dJ6_stringSize_0f7a4_22 rfl rfl ?_
      refine go_iload_n (y := mJ6_stringSize_0f7a4) (pc := 23) dJ6_stringSize_0f7a4_23 rfl rfl ?_
      refine go_icmp_le (y := mJ6_stringSize_0f7a4) (pc := 24) (tgt := 31) dJ6_stringSize_0f7a4_24 (by decide) (by omega) (by omega) (fun h24 => ?_) (fun h24 => ?_)
      · skip
        refine go_bipush (y := mJ6_stringSize_0f7a4) (pc := 31) dJ6_stringSize_0f7a4_31 (by decide) ?_
        refine go_iload_n (y := mJ6_stringSize_0f7a4) (pc := 33) dJ6_stringSize_0f7a4_33 rfl rfl ?_
        refine go_imul (y := mJ6_stringSize_0f7a4) (pc := 34) dJ6_stringSize_0f7a4_34 ?_
        refine go_istore_n (y := mJ6_stringSize_0f7a4) (pc := 35) dJ6_stringSize_0f7a4_35 rfl (by decide) ?_
        refine go_iinc (y := mJ6_stringSize_0f7a4) (pc := 36) dJ6_stringSize_0f7a4_36 rfl (by decide) ?_
        refine go_goto (y := mJ6_stringSize_0f7a4) (pc := 39) (tgt := 16) dJ6_stringSize_0f7a4_39 (by decide) ?_
        refine go_iload_n (y := mJ6_stringSize_0f7a4) (pc := 16) dJ6_stringSize_0f7a4_16 rfl rfl ?_
        refine go_bipush (y := mJ6_stringSize_0f7a4) (pc := 17) dJ6_stringSize_0f7a4_17 (by decide) ?_
        refine go_icmp_ge (y := mJ6_stringSize_0f7a4) (pc := 19) (tgt := 42) dJ6_stringSize_0f7a4_19 (by decide) (by omega) (by omega) (fun h19 => ?_) (fun h19 => ?_)
        · skip
          exact absurd h19 (by omega)
        · skip
          refine go_iload_n (y := mJ6_stringSize_0f7a4) (pc := 22) dJ6_stringSize_0f7a4_22 rfl rfl ?_
          refine go_iload_n (y := mJ6_stringSize_0f7a4) (pc := 23) dJ6_stringSize_0f7a4_23 rfl rfl ?_
          refine go_icmp_le (y := mJ6_stringSize_0f7a4) (pc := 24) (tgt := 31) dJ6_stringSize_0f7a4_24 (by decide) (by omega) (by omega) (fun h24 => ?_) (fun h24 => ?_)
          · skip
            exact absurd h24 (by omega)
          · skip
            refine go_iload_n (y := mJ6_stringSize_0f7a4) (pc := 27) dJ6_stringSize_0f7a4_27 rfl rfl ?_
            refine go_iload_n (y := mJ6_stringSize_0f7a4) (pc := 28) dJ6_stringSize_0f7a4_28 rfl rfl ?_
            refine go_iadd (y := mJ6_stringSize_0f7a4) (pc := 29) dJ6_stringSize_0f7a4_29 ?_
            refine go_ireturn (y := mJ6_stringSize_0f7a4) (pc := 30) dJ6_stringSize_0f7a4_30 rfl ?_
            rw [dgl_n, if_neg (by omega)] at K
            exact K
      · skip
        refine go_iload_n (y := mJ6_stringSize_0f7a4) (pc := 27) dJ6_stringSize_0f7a4_27 rfl rfl ?_
        refine go_iload_n (y := mJ6_stringSize_0f7a4) (pc := 28) dJ6_stringSize_0f7a4_28 rfl rfl ?_
        refine go_iadd (y := mJ6_stringSize_0f7a4) (pc := 29) dJ6_stringSize_0f7a4_29 ?_
        refine go_ireturn (y := mJ6_stringSize_0f7a4) (pc := 30) dJ6_stringSize_0f7a4_30 rfl ?_
        rw [dgl_n, if_pos (by omega)] at K
        exact K
/-- the row behind a number's letters, written before p -/
def gcm (μ : Mem) (v p : Nat) : Mem := if v < 10 then wr μ 5001 (p - 1) (48 + (v : Int)) else wr (wr μ 5001 (p - 1) (48 + ((v % 10 : Nat) : Int))) 5001 (p - 2) (48 + ((v / 10 : Nat) : Int))
theorem gcm_o {μ : Mem} {v p b j : Nat} (h : b ≠ 5001) : gcm μ v p b j = μ b j := by
  unfold gcm
  split
  · rw [wr_na h]
  · rw [wr_na h, wr_na h]
set_option maxRecDepth 8000 in
set_option maxHeartbeats 4000000 in
theorem sb_getChars {μ : Mem} {v p : Nat} (hv : v < 100) (hp : (dgl v).length ≤ p) (hcap : (p : Int) ≤ μ 5002 0) (h142 : p ≤ 382) (hm : μ 5003 0 ≠ 0) {Q : Option Value → Mem → Prop} {X : String → Mem → Prop} (K : ∀ x, Q (some (.int (iI x))) (gcm μ v p)) : mt 276 0 0 0 mJ6_getChars_ba4f3 [.int (iI (v : Nat)), .int (iI (p : Nat)), .ref 5001] Q X μ := by
  show go 276 0 0 0 mJ6_getChars_ba4f3 Q X 0 [.int (iI (v : Nat)), .int (iI (p : Nat)), .ref 5001, .null, .null, .null, .null] [] _
  have hp1 : 1 ≤ p := by
    rw [dgl_n] at hp
    split at hp <;> omega
  have hp2 : ¬ v < 10 → 2 ≤ p := fun h => by
    rw [dgl_n, if_neg h] at hp
    exact hp
  refine go_iload_n (y := mJ6_getChars_ba4f3) (pc := 0) dJ6_getChars_ba4f3_0 rfl rfl ?_
  refine go_istore (y := mJ6_getChars_ba4f3) (pc := 1) dJ6_getChars_ba4f3_1 (by decide) ?_
  refine go_iload_n (y := mJ6_getChars_ba4f3) (pc := 3) dJ6_getChars_ba4f3_3 rfl rfl ?_
  refine go_if_ge (y := mJ6_getChars_ba4f3) (pc := 4) (tgt := 11) dJ6_getChars_ba4f3_4 (by decide) (by omega) (fun h4 => ?_) (fun h4 => ?_)
  · skip
    refine go_iconst (y := mJ6_getChars_ba4f3) (pc := 11) dJ6_getChars_ba4f3_11 ?_
    refine go_istore (y := mJ6_getChars_ba4f3) (pc := 12) dJ6_getChars_ba4f3_12 (by decide) ?_
    refine go_iload (y := mJ6_getChars_ba4f3) (pc := 14) dJ6_getChars_ba4f3_14 rfl ?_
    refine go_if_ne (y := mJ6_getChars_ba4f3) (pc := 16) (tgt := 22) dJ6_getChars_ba4f3_16 (by decide) (by omega) (fun h16 => ?_) (fun h16 => ?_)
    · skip
      exact absurd rfl h16
    · skip
      refine go_iload_n (y := mJ6_getChars_ba4f3) (pc := 19) dJ6_getChars_ba4f3_19 rfl rfl ?_
      refine go_ineg (y := mJ6_getChars_ba4f3) (pc := 20) dJ6_getChars_ba4f3_20 ?_
      refine go_istore_n (y := mJ6_getChars_ba4f3) (pc := 21) dJ6_getChars_ba4f3_21 rfl (by decide) ?_
      refine go_iload_n (y := mJ6_getChars_ba4f3) (pc := 22) dJ6_getChars_ba4f3_22 rfl rfl ?_
      refine go_bipush (y := mJ6_getChars_ba4f3) (pc := 23) dJ6_getChars_ba4f3_23 (by decide) ?_
      refine go_icmp_gt (y := mJ6_getChars_ba4f3) (pc := 25) (tgt := 72) dJ6_getChars_ba4f3_25 (by decide) (by omega) (by omega) (fun h25 => ?_) (fun h25 => ?_)
      · skip
        refine go_aload_n (y := mJ6_getChars_ba4f3) (pc := 72) dJ6_getChars_ba4f3_72 rfl rfl ?_
        refine go_iinc (y := mJ6_getChars_ba4f3) (pc := 73) dJ6_getChars_ba4f3_73 rfl (by decide) ?_
        refine go_iload (y := mJ6_getChars_ba4f3) (pc := 76) dJ6_getChars_ba4f3_76 rfl ?_
        refine go_dones (y := mJ6_getChars_ba4f3) (pc := 78) dJ6_getChars_ba4f3_78 fk_J6_83 ?_
        refine go_iload_n (y := mJ6_getChars_ba4f3) (pc := 81) dJ6_getChars_ba4f3_81 rfl rfl ?_
        refine go_ineg (y := mJ6_getChars_ba4f3) (pc := 82) dJ6_getChars_ba4f3_82 ?_
        refine go_done (y := mJ6_getChars_ba4f3) (pc := 83) (k := v) dJ6_getChars_ba4f3_83 (by omega) (by omega) ?_
        refine go_bsta (y := mJ6_getChars_ba4f3) (pc := 84) (k := (p - 1)) dJ6_getChars_ba4f3_84 (by decide) hm (by omega) (by omega) (by omega) ?_
        refine go_iload_n (y := mJ6_getChars_ba4f3) (pc := 85) dJ6_getChars_ba4f3_85 rfl rfl ?_
        refine go_bipush (y := mJ6_getChars_ba4f3) (pc := 86) dJ6_getChars_ba4f3_86 (by decide) ?_
        refine go_icmp_ge (y := mJ6_getChars_ba4f3) (pc := 88) (tgt := 104) dJ6_getChars_ba4f3_88 (by decide) (by omega) (by omega) (fun h88 => ?_) (fun h88 => ?_)
        · skip
          refine go_iload (y := mJ6_getChars_ba4f3) (pc := 104) dJ6_getChars_ba4f3_104 rfl ?_
          refine go_if_eq (y := mJ6_getChars_ba4f3) (pc := 106) (tgt := 118) dJ6_getChars_ba4f3_106 (by decide) (by omega) (fun h106 => ?_) (fun h106 => ?_)
          · skip
            refine go_iload (y := mJ6_getChars_ba4f3) (pc := 118) dJ6_getChars_ba4f3_118 rfl ?_
            refine go_ireturn (y := mJ6_getChars_ba4f3) (pc := 120) dJ6_getChars_ba4f3_120 rfl ?_
            rw [show gcm μ v p = wr μ 5001 (p - 1) ((48 + v % 10 : Nat) : Int) from (by
              unfold gcm
              rw [if_pos (by omega), show 48 + v % 10 = 48 + v by omega]
              rfl)] at K
            exact K _
          · skip
            exact absurd rfl h106
        · skip
          refine go_aload_n (y := mJ6_getChars_ba4f3) (pc := 91) dJ6_getChars_ba4f3_91 rfl rfl ?_
          refine go_iinc (y := mJ6_getChars_ba4f3) (pc := 92) dJ6_getChars_ba4f3_92 rfl (by decide) ?_
          refine go_iload (y := mJ6_getChars_ba4f3) (pc := 95) dJ6_getChars_ba4f3_95 rfl ?_
          refine go_dtens (y := mJ6_getChars_ba4f3) (pc := 97) dJ6_getChars_ba4f3_97 fk_J6_87 ?_
          refine go_iload_n (y := mJ6_getChars_ba4f3) (pc := 100) dJ6_getChars_ba4f3_100 rfl rfl ?_
          refine go_ineg (y := mJ6_getChars_ba4f3) (pc := 101) dJ6_getChars_ba4f3_101 ?_
          refine go_dten (y := mJ6_getChars_ba4f3) (pc := 102) (k := v) dJ6_getChars_ba4f3_102 (by omega) (by omega) ?_
          refine go_bsta (y := mJ6_getChars_ba4f3) (pc := 103) (k := (p - 2)) dJ6_getChars_ba4f3_103 (by decide) (by rw [wr_na (by decide)]; exact hm) (by have := hp2 (by omega); omega) (by rw [wr_na (by decide)]; have := hp2 (by omega); omega) (by omega) ?_
          refine go_iload (y := mJ6_getChars_ba4f3) (pc := 104) dJ6_getChars_ba4f3_104 rfl ?_
          refine go_if_eq (y := mJ6_getChars_ba4f3) (pc := 106) (tgt := 118) dJ6_getChars_ba4f3_106 (by decide) (by omega) (fun h106 => ?_) (fun h106 => ?_)
          · skip
            refine go_iload (y := mJ6_getChars_ba4f3) (pc := 118) dJ6_getChars_ba4f3_118 rfl ?_
            refine go_ireturn (y := mJ6_getChars_ba4f3) (pc := 120) dJ6_getChars_ba4f3_120 rfl ?_
            rw [show gcm μ v p = wr (wr μ 5001 (p - 1) ((48 + v % 10 : Nat) : Int)) 5001 (p - 2) ((48 + v / 10 : Nat) : Int) from (by
              unfold gcm
              rw [if_neg (by omega)]
              rfl)] at K
            exact K _
          · skip
            exact absurd rfl h106
      · skip
        exact absurd h25 (by omega)
  · skip
    exact absurd h4 (by omega)
theorem gcm_in {μ : Mem} {v n j : Nat} (h : j < n) {p : Nat} (hp : p = n + (dgl v).length) : gcm μ v p 5001 j = μ 5001 j := by
  rw [dgl_n] at hp
  unfold gcm
  by_cases g : v < 10
  · rw [if_pos g] at hp ⊢
    rw [wr_ni (by omega)]
  · rw [if_neg g] at hp ⊢
    rw [wr_ni (by omega), wr_ni (by omega)]
theorem gcm_new {μ : Mem} {v n i p : Nat} {c : Int} (hp : p = n + (dgl v).length) (hc : (dgl v)[i]? = some c) : gcm μ v p 5001 (n + i) = c := by
  rw [dgl_n] at hp
  unfold gcm
  by_cases g : v < 10
  · rw [if_pos g] at hp ⊢
    rw [dgl_1 g] at hc
    have hi := (List.getElem?_eq_some_iff.mp hc).1
    simp only [List.length_cons, List.length_nil] at hi
    obtain rfl : i = 0 := by omega
    rw [show n + 0 = p - 1 by omega, wr_s]
    injection hc
  · rw [if_neg g] at hp ⊢
    rw [dgl_2 g] at hc
    have hi := (List.getElem?_eq_some_iff.mp hc).1
    simp only [List.length_cons, List.length_nil] at hi
    have e : i = 0 ∨ i = 1 := by omega
    rcases e with rfl | rfl
    · rw [show n + 0 = p - 2 by omega, wr_s]
      injection hc
    · rw [wr_ni (by omega), show n + 1 = p - 1 by omega, wr_s]
      injection hc
/-- the memory behind a number -/
def apn (μ : Mem) (v : Nat) : Mem := wr (gcm (if μ 5000 0 + ((dgl v).length : Nat) ≤ μ 5002 0 then μ else grw μ (2 * μ 5002 0 + 2)) v ((μ 5000 0).toNat + (dgl v).length)) 5000 0 (μ 5000 0 + ((dgl v).length : Nat))
theorem apn_OL {l : List Int} {μ : Mem} {v : Nat} (h : OL l μ) (hf : μ 5000 0 ≤ μ 5002 0) (h0 : μ 5003 0 = 0) (hc : chn (μ 5002 0)) (hn : ((l ++ dgl v).length : Int) ≤ 382) : OL (l ++ dgl v) (apn μ v) ∧ eqO (apn μ v) μ ∧ apn μ v 5002 0 = cpf (μ 5002 0) ((l ++ dgl v).length : Nat) := by
  have e : μ 5000 0 = (l.length : Nat) := h.1
  rw [List.length_append] at hn ⊢
  have k1 : 1 ≤ (dgl v).length ∧ (dgl v).length ≤ 2 := by rw [dgl_n]; split <;> omega
  obtain ⟨k, ek⟩ : ∃ k, k = (dgl v).length := ⟨_, rfl⟩
  unfold apn
  rw [← ek] at hn k1 ⊢
  refine ⟨⟨?_, fun j x hj => ?_⟩, ⟨fun b j hb => ?_, ?_⟩, ?_⟩
  · rw [wr_s, List.length_append, ← ek]
    omega
  · rw [wr_na (by decide)]
    by_cases g : j < l.length
    · rw [List.getElem?_append_left g] at hj
      rw [gcm_in (n := l.length) g (by omega)]
      by_cases q : μ 5000 0 + (k : Nat) ≤ μ 5002 0
      · rw [if_pos q]
        exact h.2 j x hj
      · rw [if_neg q, grw_1, if_pos (by omega)]
        exact h.2 j x hj
    · rw [List.getElem?_append_right (by omega)] at hj
      rw [show j = l.length + (j - l.length) by omega]
      exact gcm_new (by omega) hj
  · rw [wr_na (by omega), gcm_o (by omega)]
    split
    · rfl
    · exact grw_o (by omega)
  · rw [wr_na (by decide), gcm_o (by decide)]
    split
    · exact h0
    · exact grw_3
  · rw [wr_na (by decide), gcm_o (by decide)]
    by_cases q : μ 5000 0 + (k : Nat) ≤ μ 5002 0
    · rw [if_pos q, cpf_i (by omega)]
    · rw [if_neg q, grw_2]
      exact (cpf_g (Or.inl hc) (by omega) (by unfold chn at hc; omega) (by omega)).1.symm
set_option maxRecDepth 8000 in
set_option maxHeartbeats 4000000 in
theorem sb_apI5 {μ : Mem} {v : Nat} {kc ks : Nat} (hv : v < 100) (h0 : μ 5003 0 = 0) (hf : 0 ≤ μ 5000 0 ∧ μ 5000 0 ≤ μ 5002 0) (hch : chn (μ 5002 0)) (hn : μ 5000 0 + ((dgl v).length : Nat) ≤ 382) (hk : kB (μ 5002 0) ≤ kc + kB (cpf (μ 5002 0) (μ 5000 0 + ((dgl v).length : Nat)))) (hs : sB (μ 5002 0) ≤ ks + sB (cpf (μ 5002 0) (μ 5000 0 + ((dgl v).length : Nat)))) {Q : Option Value → Mem → Prop} {X : String → Mem → Prop} (K : Q (some (.ref 5000)) (apn μ v)) : mt 276 4 kc ks mJ5_append_c97b9 [.ref 5000, .int (iI (v : Nat))] Q X μ := by
  show go 276 4 kc ks mJ5_append_c97b9 Q X 0 [.ref 5000, .int (iI (v : Nat)), .null, .null] [] _
  have hcap : μ 5002 0 = 16 ∨ μ 5002 0 = 22 ∨ μ 5002 0 = 46 ∨ μ 5002 0 = 94 ∨ μ 5002 0 = 190 ∨ μ 5002 0 = 382 := by unfold chn at hch; omega
  have k1 : 1 ≤ (dgl v).length ∧ (dgl v).length ≤ 2 := by rw [dgl_n]; split <;> omega
  obtain ⟨p, ep⟩ : ∃ p, p = (μ 5000 0).toNat + (dgl v).length := ⟨_, rfl⟩
  have epz : μ 5000 0 + ((dgl v).length : Nat) = (p : Int) := by omega
  have J17 : ∀ M : Mem, M 5003 0 = 0 → M 5000 0 = μ 5000 0 → (p : Int) ≤ M 5002 0 → M 5002 0 ≤ 382 → M = (if μ 5000 0 + ((dgl v).length : Nat) ≤ μ 5002 0 then μ else grw μ (2 * μ 5002 0 + 2)) → go 276 4 0 0 mJ5_append_c97b9 Q X 17 [.ref 5000, .int (iI (v : Nat)), .int (iI (μ 5000 0)), .int (iI (p : Nat))] [] M := by
    intro M m3 m0 m2 m4 eM
    refine go_sbin (by decide) (by repeat' first | exact nob_nil | refine nob_int ?_ | refine nob_null ?_ | refine nob_ref (by decide) ?_) (by repeat' first | exact nob_nil | refine nob_int ?_ | refine nob_null ?_ | refine nob_ref (by decide) ?_) ?_
    obtain ⟨N, eN⟩ : ∃ N, N = wr M 5003 0 1 := ⟨_, rfl⟩
    have hm : N 5003 0 ≠ 0 := by rw [eN, wr_s]; decide
    have N2 : N 5002 0 = M 5002 0 := by rw [eN, wr_na (by decide)]
    refine go_mem eN.symm ?_
    refine go_aload_n (y := mJ5_append_c97b9) (pc := 17) dJ5_append_c97b9_17 rfl rfl ?_
    refine go_callO (y := mJ5_append_c97b9) (pc := 18) (y' := mJ5_isLatin1_aae02) (as := []) (kc2 := 0) (ks2 := 0) dJ5_append_c97b9_18 rfl ml_J5_83 ok_J5_isLatin1_aae02 se_J5_isLatin1_aae02 (by decide) rfl (Nat.le_of_ble_eq_true rfl) (by intro v hv; simp only [List.mem_cons, List.not_mem_nil, or_false] at hv) (Nat.le_of_ble_eq_true rfl) (Nat.le_refl _) (by decide) (by decide) (by decide) rfl (sb_isLatin1 ?_)
    refine go_if_eq (y := mJ5_append_c97b9) (pc := 21) (tgt := 37) dJ5_append_c97b9_21 (by decide) (by omega) (fun h21 => ?_) (fun h21 => ?_)
    · skip
      exact absurd h21 (by decide)
    · skip
      refine go_iload_n (y := mJ5_append_c97b9) (pc := 24) dJ5_append_c97b9_24 rfl rfl ?_
      refine go_iload_n (y := mJ5_append_c97b9) (pc := 25) dJ5_append_c97b9_25 rfl rfl ?_
      refine go_aload_n (y := mJ5_append_c97b9) (pc := 26) dJ5_append_c97b9_26 rfl rfl ?_
      refine go_bref (y := mJ5_append_c97b9) (pc := 27) dJ5_append_c97b9_27 fk_J5_15 (by decide) hm ?_
      refine go_callS3 (y := mJ5_append_c97b9) (pc := 30) (y' := mJ6_getChars_ba4f3) (kc2 := 0) (ks2 := 0) dJ5_append_c97b9_30 ml_J5_248 ok_J6_getChars_ba4f3 ⟨rfl, rfl, rfl⟩ (by decide) (Nat.le_of_ble_eq_true rfl) rfl (sb_getChars (p := p) hv (by omega) (by omega) (by omega) hm (fun x30 => ?_))
      refine go_pop (y := mJ5_append_c97b9) (pc := 33) dJ5_append_c97b9_33 rfl ?_
      refine go_goto (y := mJ5_append_c97b9) (pc := 34) (tgt := 48) dJ5_append_c97b9_34 (by decide) ?_
      refine go_aload_n (y := mJ5_append_c97b9) (pc := 48) dJ5_append_c97b9_48 rfl rfl ?_
      refine go_iload_n (y := mJ5_append_c97b9) (pc := 49) dJ5_append_c97b9_49 rfl rfl ?_
      refine go_bsetc (y := mJ5_append_c97b9) (pc := 50) dJ5_append_c97b9_50 fk_J5_79 (by decide) (by rw [gcm_o (by decide), N2]; omega) ?_
      refine go_aload_n (y := mJ5_append_c97b9) (pc := 53) dJ5_append_c97b9_53 rfl rfl ?_
      refine go_areturn (y := mJ5_append_c97b9) (pc := 54) dJ5_append_c97b9_54 rfl (Or.inl ⟨_, rfl⟩) ?_
      refine ⟨fun w => (by injection w with w; injection w with w; exact absurd w (by decide)), ?_⟩
      rw [show wr (wr (gcm N v p) 5000 0 (p : Int)) 5003 0 0 = apn μ v from ?_]
      · exact K
      · unfold apn
        rw [← eM, ← ep, epz, eN]
        funext b j
        by_cases e : b = 5003 ∧ j = 0
        · rw [e.1, e.2, wr_s, wr_na (by decide), gcm_o (by decide), m3]
        · rw [wr_n e]
          by_cases e2 : b = 5000 ∧ j = 0
          · rw [e2.1, e2.2, wr_s, wr_s]
          · rw [wr_n e2, wr_n e2]
            unfold gcm
            split
            · by_cases e1 : b = 5001 ∧ j = p - 1
              · rw [e1.1, e1.2, wr_s, wr_s]
              · rw [wr_n e1, wr_n e1, wr_n e]
            · by_cases e3 : b = 5001 ∧ j = p - 2
              · rw [e3.1, e3.2, wr_s, wr_s]
              · rw [wr_n e3, wr_n e3]
                by_cases e1 : b = 5001 ∧ j = p - 1
                · rw [e1.1, e1.2, wr_s, wr_s]
                · rw [wr_n e1, wr_n e1, wr_n e]
  by_cases g : μ 5000 0 + ((dgl v).length : Nat) ≤ μ 5002 0
  · skip
    refine go_aload_n (y := mJ5_append_c97b9) (pc := 0) dJ5_append_c97b9_0 rfl rfl ?_
    refine go_bcnt (y := mJ5_append_c97b9) (pc := 1) dJ5_append_c97b9_1 fk_J5_79 (by decide) ?_
    refine go_top (b := μ 5000 0) (rfl) (fun t1 => ?_)
    refine go_istore_n (y := mJ5_append_c97b9) (pc := 4) dJ5_append_c97b9_4 rfl (by decide) ?_
    refine go_iload_n (y := mJ5_append_c97b9) (pc := 5) dJ5_append_c97b9_5 rfl rfl ?_
    refine go_iload_n (y := mJ5_append_c97b9) (pc := 6) dJ5_append_c97b9_6 rfl rfl ?_
    refine go_callS1 (y := mJ5_append_c97b9) (pc := 7) (y' := mJ6_stringSize_0f7a4) (kc2 := kc) (ks2 := ks) dJ5_append_c97b9_7 ml_J5_245 ok_J6_stringSize_0f7a4 rfl ⟨by decide, by decide, by decide, by omega, by omega⟩ (Nat.le_of_ble_eq_true rfl) rfl (sb_stringSize (by omega) ?_)
    refine go_iadd (y := mJ5_append_c97b9) (pc := 10) dJ5_append_c97b9_10 ?_
    refine go_top (b := ((p : Nat) : Int)) ((by omega)) (fun t10 => ?_)
    refine go_istore_n (y := mJ5_append_c97b9) (pc := 11) dJ5_append_c97b9_11 rfl (by decide) ?_
    refine go_aload_n (y := mJ5_append_c97b9) (pc := 12) dJ5_append_c97b9_12 rfl rfl ?_
    refine go_iload_n (y := mJ5_append_c97b9) (pc := 13) dJ5_append_c97b9_13 rfl rfl ?_
    refine go_callO (y := mJ5_append_c97b9) (pc := 14) (y' := mJ5_ensureCapacityInternal_d00df) (as := [.int (iI (p : Nat))]) (kc2 := 0) (ks2 := 0) dJ5_append_c97b9_14 rfl ml_J5_100 ok_J5_ensureCapacityInternal_d00df se_J5_ensureCapacityInternal_d00df (by decide) rfl (Nat.le_of_ble_eq_true rfl) (by intro v hv; simp only [List.mem_cons, List.not_mem_nil, or_false] at hv; rw [hv]; rfl) (Nat.le_of_ble_eq_true rfl) (Nat.le_refl _) (by decide) (Nat.zero_le _) (Nat.zero_le _) rfl (sb_ens0 h0 (by omega) ?_)
    exact J17 μ h0 rfl (by omega) (by omega) (if_pos g).symm
  · skip
    obtain ⟨g1, g2, g3, g4⟩ := cpf_g (Or.inl hch) (show μ 5002 0 < μ 5000 0 + ((dgl v).length : Nat) by omega) (by omega) hn
    rw [g1] at hk hs
    refine go_aload_n (y := mJ5_append_c97b9) (pc := 0) dJ5_append_c97b9_0 rfl rfl ?_
    refine go_bcnt (y := mJ5_append_c97b9) (pc := 1) dJ5_append_c97b9_1 fk_J5_79 (by decide) ?_
    refine go_top (b := μ 5000 0) (rfl) (fun t1 => ?_)
    refine go_istore_n (y := mJ5_append_c97b9) (pc := 4) dJ5_append_c97b9_4 rfl (by decide) ?_
    refine go_iload_n (y := mJ5_append_c97b9) (pc := 5) dJ5_append_c97b9_5 rfl rfl ?_
    refine go_iload_n (y := mJ5_append_c97b9) (pc := 6) dJ5_append_c97b9_6 rfl rfl ?_
    refine go_callS1 (y := mJ5_append_c97b9) (pc := 7) (y' := mJ6_stringSize_0f7a4) (kc2 := kc) (ks2 := ks) dJ5_append_c97b9_7 ml_J5_245 ok_J6_stringSize_0f7a4 rfl ⟨by decide, by decide, by decide, by omega, by omega⟩ (Nat.le_of_ble_eq_true rfl) rfl (sb_stringSize (by omega) ?_)
    refine go_iadd (y := mJ5_append_c97b9) (pc := 10) dJ5_append_c97b9_10 ?_
    refine go_top (b := ((p : Nat) : Int)) ((by omega)) (fun t10 => ?_)
    refine go_istore_n (y := mJ5_append_c97b9) (pc := 11) dJ5_append_c97b9_11 rfl (by decide) ?_
    refine go_aload_n (y := mJ5_append_c97b9) (pc := 12) dJ5_append_c97b9_12 rfl rfl ?_
    refine go_iload_n (y := mJ5_append_c97b9) (pc := 13) dJ5_append_c97b9_13 rfl rfl ?_
    refine go_callO (y := mJ5_append_c97b9) (pc := 14) (y' := mJ5_ensureCapacityInternal_d00df) (as := [.int (iI (p : Nat))]) (kc2 := 0) (ks2 := 0) dJ5_append_c97b9_14 rfl ml_J5_100 ok_J5_ensureCapacityInternal_d00df se_J5_ensureCapacityInternal_d00df (by decide) rfl (Nat.le_of_ble_eq_true rfl) (by intro v hv; simp only [List.mem_cons, List.not_mem_nil, or_false] at hv; rw [hv]; rfl) (Nat.le_of_ble_eq_true rfl) (Nat.le_refl _) (by decide) (show 1 + 0 ≤ kc by omega) (show (2 * μ 5002 0 + 2).toNat + 0 ≤ ks by omega) rfl (sb_ens1 (ks := (2 * μ 5002 0 + 2).toNat) (Nat.le_refl _) h0 (by omega) g4 ?_)
    exact J17 _ grw_3 (grw_o (by decide)) (by rw [grw_2]; omega) (by rw [grw_2]; omega) (if_neg g).symm
set_option maxRecDepth 8000 in
set_option maxHeartbeats 4000000 in
theorem sb_apI {μ : Mem} {v : Nat} {kc ks : Nat} (hv : v < 100) (h0 : μ 5003 0 = 0) (hf : 0 ≤ μ 5000 0 ∧ μ 5000 0 ≤ μ 5002 0) (hch : chn (μ 5002 0)) (hn : μ 5000 0 + ((dgl v).length : Nat) ≤ 382) (hk : kB (μ 5002 0) ≤ kc + kB (cpf (μ 5002 0) (μ 5000 0 + ((dgl v).length : Nat)))) (hs : sB (μ 5002 0) ≤ ks + sB (cpf (μ 5002 0) (μ 5000 0 + ((dgl v).length : Nat)))) {Q : Option Value → Mem → Prop} {X : String → Mem → Prop} (K : Q (some (.ref 5000)) (apn μ v)) : mt 276 5 kc ks mJ4_append_bf812 [.ref 5000, .int (iI (v : Nat))] Q X μ := by
  show go 276 5 kc ks mJ4_append_bf812 Q X 0 [.ref 5000, .int (iI (v : Nat))] [] _
  refine go_aload_n (y := mJ4_append_bf812) (pc := 0) dJ4_append_bf812_0 rfl rfl ?_
  refine go_iload_n (y := mJ4_append_bf812) (pc := 1) dJ4_append_bf812_1 rfl rfl ?_
  refine go_callSu (y := mJ4_append_bf812) (pc := 2) (y' := mJ5_append_c97b9) (as := [.int (iI (v : Nat))]) (kc2 := 0) (ks2 := 0) dJ4_append_bf812_2 rfl ml_J4_53 ok_J5_append_c97b9 sm_J5_append_c97b9 su_J4 (by decide) (by decide) rfl (Nat.le_of_ble_eq_true rfl) (by intro v hv; simp only [List.mem_cons, List.not_mem_nil, or_false] at hv; rw [hv]; rfl) (Nat.le_of_ble_eq_true rfl) (Nat.le_refl _) (by decide) (Nat.le_refl _) (Nat.le_refl _) rfl (sb_apI5 (kc := kc) (ks := ks) hv h0 hf hch hn hk hs ?_)
  refine go_pop (y := mJ4_append_bf812) (pc := 5) dJ4_append_bf812_5 rfl ?_
  refine go_aload_n (y := mJ4_append_bf812) (pc := 6) dJ4_append_bf812_6 rfl rfl ?_
  refine go_areturn (y := mJ4_append_bf812) (pc := 7) dJ4_append_bf812_7 rfl (Or.inl ⟨_, rfl⟩) ?_
  exact K
