/-! THE MODEL: tokens -/
theorem kd_4 {c : Int} : kd c = 4 ↔ c = 32 ∨ c = 10 := by unfold kd; (repeat' split) <;> omega
theorem kd_1 {c : Int} : kd c = 1 ↔ 97 ≤ c ∧ c ≤ 122 := by unfold kd; (repeat' split) <;> omega
theorem kd_2 {c : Int} : kd c = 2 ↔ 48 ≤ c ∧ c ≤ 57 := by unfold kd; (repeat' split) <;> omega
theorem kd_0 {c : Int} : kd c = 0 ↔ c = 0 := by unfold kd; (repeat' split) <;> omega
theorem kd_b (c : Int) : 0 ≤ kd c ∧ kd c ≤ 4 := by unfold kd; (repeat' split) <;> omega
theorem wr_wr {σ : Mem} {a i : Nat} {v w : Int} : wr (wr σ a i v) a i w = wr σ a i w := by
  funext b j
  unfold wr
  by_cases h : b = a ∧ j = i
  · rw [if_pos h, if_pos h]
  · rw [if_neg h, if_neg h, if_neg h]
theorem wr_id {σ : Mem} {a i : Nat} {v : Int} (h : σ a i = v) : wr σ a i v = σ := by
  funext b j
  unfold wr
  by_cases g : b = a ∧ j = i
  · rw [if_pos g, g.1, g.2, h]
  · rw [if_neg g]
theorem wr_cm {σ : Mem} {a i b j : Nat} {v w : Int} (h : i ≠ j) : wr (wr σ a i v) b j w = wr (wr σ b j w) a i v := by
  funext x y
  unfold wr
  by_cases g1 : x = b ∧ y = j
  · rw [if_pos g1, if_neg (by omega), if_pos g1]
  · rw [if_neg g1, if_neg g1]
/-- the model's buffer holds L bytes of f -/
def okB (f : Int → Int) (L : Nat) (σ : Mem) : Prop := σ 0 9 = L ∧ L ≤ 700 ∧ (∀ i : Nat, i < L → σ 7 i = f i ∧ 1 ≤ f i ∧ f i < 256) ∧ f (L : Nat) = 0
theorem okB_w {f : Int → Int} {L i : Nat} {σ : Mem} {v : Int} (h : okB f L σ) (hi : i ≠ 9) : okB f L (wr σ 0 i v) := by
  obtain ⟨h1, h2, h3, h4⟩ := h
  exact ⟨by rw [wr_ni (Ne.symm hi)]; exact h1, h2, fun k hk => by rw [wr_na (by decide)]; exact h3 k hk, h4⟩
def tkT (f : Int → Int) (b : Nat) : Int := if tkK f b = 3 then (if f b = 59 ∨ f b = 40 ∨ f b = 41 then 3 else 4) else tkK f b
def nmk (f : Int → Int) : Nat → Nat → Int → Int
  | 0, _, v => v
  | n + 1, p, v => nmk f n (p + 1) (min 1000 (10 * v + f (p : Int) - 48))
/-- the number of the run of digits at b -/
def nmv (f : Int → Int) (L b : Nat) : Int := nmk f (rnn f 2 (L - b) b - b) b 0
def rdM (σ : Mem) (f : Int → Int) (L b : Nat) : Mem := wr (wr (wr (wr σ 0 13 (b : Nat)) 0 14 (tkT f b)) 0 15 (if tkK f b = 2 then nmv f L b else σ 0 15)) 0 12 (tkE f L b : Nat)
section MRead
variable {σ μ : Mem} {ν : Nat → Int} {f : Int → Int} {L : Nat}
set_option maxRecDepth 8000 in
set_option maxHeartbeats 4000000 in
theorem m_seen {p : Nat} (hB : okB f L σ) (hp : p ≤ L) {Q : Option Value → Mem → Prop} {X : String → Mem → Prop} (K : ∀ v, v = (if p < L then f p else -1) → -1 ≤ v ∧ v < 256 → Q (some (.int (iI v))) (md σ ν μ)) : mt 289 0 0 0 mX11_seen [.ref 276, .int (iI (p : Nat))] Q X (md σ ν μ) := by
  show go 289 0 0 0 mX11_seen Q X 0 [.ref 276, .int (iI (p : Nat))] [] _
  obtain ⟨b1, b2, b3, b4⟩ := hB
  refine go_iload_n (y := mX11_seen) (pc := 0) dX11_seen_0 rfl rfl ?_
  refine go_aload_n (y := mX11_seen) (pc := 1) dX11_seen_1 rfl rfl ?_
  refine go_mget (y := mX11_seen) (pc := 2) dX11_seen_2 fl_X11_67 rfl rfl (by decide) (fun r2 => ?_)
  refine go_top (b := ((L : Nat) : Int)) (b1) (fun t2 => ?_)
  refine go_icmp_ge (y := mX11_seen) (pc := 5) (tgt := 17) dX11_seen_5 (by decide) (by omega) (by omega) (fun h5 => ?_) (fun h5 => ?_)
  · skip
    refine go_iconst (y := mX11_seen) (pc := 17) dX11_seen_17 ?_
    refine go_ireturn (y := mX11_seen) (pc := 18) dX11_seen_18 rfl ?_
    exact K (-1) (by rw [if_neg (by omega)]) (by decide)
  · skip
    have h9 := b3 p (by omega)
    refine go_aload_n (y := mX11_seen) (pc := 8) dX11_seen_8 rfl rfl ?_
    refine go_mref (y := mX11_seen) (pc := 9) dX11_seen_9 fl_X11_29 rfl rfl (by decide) ?_
    refine go_iload_n (y := mX11_seen) (pc := 12) dX11_seen_12 rfl rfl ?_
    refine go_mial (y := mX11_seen) (pc := 13) (r := 7) (k := p) dX11_seen_13 (by decide) (by decide) rfl (by decide) rfl (by omega) (by decide) (fun r13 => ?_)
    refine go_top (b := f p) (h9.1) (fun t13 => ?_)
    refine go_goto (y := mX11_seen) (pc := 14) (tgt := 18) dX11_seen_14 (by decide) ?_
    refine go_ireturn (y := mX11_seen) (pc := 18) dX11_seen_18 rfl ?_
    exact K _ (by rw [if_pos (by omega)]) (by omega)
set_option maxRecDepth 8000 in
set_option maxHeartbeats 4000000 in
theorem m_reads {e : Nat} (hB : okB f L σ) (he : σ 0 12 = e) (heL : e ≤ L) {Q : Option Value → Mem → Prop} {X : String → Mem → Prop} (K : Q none (md (rdM σ f L (tkB f L e)) ν μ)) : mt 289 1 0 0 mX11_reads [.ref 276] Q X (md σ ν μ) := by
  show go 289 1 0 0 mX11_reads Q X 0 [.ref 276, .null] [] _
  have hB' := hB
  obtain ⟨b1, b2, b3, b4⟩ := hB
  obtain ⟨B, eB⟩ : ∃ B, B = tkB f L e := ⟨_, rfl⟩
  rw [← eB] at K
  have hBL : B ≤ L := by have := skp_b (f := f) (L - e) e; unfold tkB at eB; omega
  have fB : B < L → 1 ≤ f B ∧ f B < 256 := fun h => (b3 B h).2
  have fL : B = L → f B = 0 := fun h => by rw [h]; exact b4
  unfold rdM at K
  have loopW : tkK f B = 1 → ∀ (m n : Nat) (c : Int), n + m = L → rnn f 1 m n = rnn f 1 (L - B) B → go 289 1 0 0 mX11_reads Q X 85 [.ref 276, .int (iI c)] [] (md (wr (wr (wr σ 0 13 (B : Nat)) 0 14 1) 0 12 (n : Nat)) ν μ) := by
    intro hk m
    have hT : tkT f B = 1 := by unfold tkT; rw [if_neg (by omega)]; exact hk
    have hE : tkE f L B = rnn f 1 (L - B) B := by unfold tkE; rw [if_neg (by omega), if_pos (by omega), hk]
    have e15 : wr (wr (wr σ 0 13 (B : Nat)) 0 14 1) 0 15 (σ 0 15) = wr (wr σ 0 13 (B : Nat)) 0 14 1 := wr_id (by rw [wr_ni (by decide), wr_ni (by decide)])
    rw [hT, hE, if_neg (by omega), e15] at K
    induction m with
    | zero =>
      intro n c hn hN
      refine go_aload_n (y := mX11_reads) (pc := 85) dX11_reads_85 rfl rfl ?_
      refine go_aload_n (y := mX11_reads) (pc := 86) dX11_reads_86 rfl rfl ?_
      refine go_mget (y := mX11_reads) (pc := 87) dX11_reads_87 fl_X11_174 rfl rfl (by decide) (fun r87 => ?_)
      refine go_top (b := ((n : Nat) : Int)) (wr_s _ _ _ _) (fun t87 => ?_)
      refine go_callV1 (y := mX11_reads) (pc := 90) (y' := mX11_seen) (kc2 := 0) (ks2 := 0) dX11_reads_90 ml_X11_177 ok_X11_seen (show shp 276 = _ from rfl) ⟨_, _, rfl⟩ (by decide) rfl (by decide) (Nat.le_of_ble_eq_true rfl) rfl (m_seen (okB_w (okB_w (okB_w hB' (by decide)) (by decide)) (by decide)) (by omega) (fun v90 e90 b90 => ?_))
      refine go_bipush (y := mX11_reads) (pc := 93) dX11_reads_93 (by decide) ?_
      refine go_bipush (y := mX11_reads) (pc := 95) dX11_reads_95 (by decide) ?_
      refine go_callS3 (y := mX11_reads) (pc := 97) (y' := mX11_in) (kc2 := 0) (ks2 := 0) dX11_reads_97 ml_X11_86 ok_X11_in ⟨rfl, rfl, rfl⟩ (by decide) (Nat.le_of_ble_eq_true rfl) rfl (m_in (by omega) (by omega) (by omega) (fun v97 e97 b97 => ?_))
      refine go_if_eq (y := mX11_reads) (pc := 100) (tgt := 234) dX11_reads_100 (by decide) (by omega) (fun h100 => ?_) (fun h100 => ?_)
      · skip
        refine go_return (y := mX11_reads) (pc := 234) dX11_reads_234 rfl ?_
        rw [rnn] at hN
        rw [← hN] at K
        exact K
      · skip
        rw [if_neg (by omega)] at e90
        exact absurd (bI_1 e97 h100) (by omega)
    | succ m ih =>
      intro n c hn hN
      refine go_aload_n (y := mX11_reads) (pc := 85) dX11_reads_85 rfl rfl ?_
      refine go_aload_n (y := mX11_reads) (pc := 86) dX11_reads_86 rfl rfl ?_
      refine go_mget (y := mX11_reads) (pc := 87) dX11_reads_87 fl_X11_174 rfl rfl (by decide) (fun r87 => ?_)
      refine go_top (b := ((n : Nat) : Int)) (wr_s _ _ _ _) (fun t87 => ?_)
      refine go_callV1 (y := mX11_reads) (pc := 90) (y' := mX11_seen) (kc2 := 0) (ks2 := 0) dX11_reads_90 ml_X11_177 ok_X11_seen (show shp 276 = _ from rfl) ⟨_, _, rfl⟩ (by decide) rfl (by decide) (Nat.le_of_ble_eq_true rfl) rfl (m_seen (okB_w (okB_w (okB_w hB' (by decide)) (by decide)) (by decide)) (by omega) (fun v90 e90 b90 => ?_))
      rw [if_pos (by omega)] at e90
      refine go_bipush (y := mX11_reads) (pc := 93) dX11_reads_93 (by decide) ?_
      refine go_bipush (y := mX11_reads) (pc := 95) dX11_reads_95 (by decide) ?_
      refine go_callS3 (y := mX11_reads) (pc := 97) (y' := mX11_in) (kc2 := 0) (ks2 := 0) dX11_reads_97 ml_X11_86 ok_X11_in ⟨rfl, rfl, rfl⟩ (by decide) (Nat.le_of_ble_eq_true rfl) rfl (m_in (by omega) (by omega) (by omega) (fun v97 e97 b97 => ?_))
      refine go_if_eq (y := mX11_reads) (pc := 100) (tgt := 234) dX11_reads_100 (by decide) (by omega) (fun h100 => ?_) (fun h100 => ?_)
      · skip
        refine go_return (y := mX11_reads) (pc := 234) dX11_reads_234 rfl ?_
        rw [rnn, if_neg (fun w => bI_0 e97 h100 (by have := kd_1.mp w; omega))] at hN
        rw [← hN] at K
        exact K
      · skip
        refine go_aload_n (y := mX11_reads) (pc := 103) dX11_reads_103 rfl rfl ?_
        refine go_dup (y := mX11_reads) (pc := 104) dX11_reads_104 rfl ?_
        refine go_mget (y := mX11_reads) (pc := 105) dX11_reads_105 fl_X11_174 rfl rfl (by decide) (fun r105 => ?_)
        refine go_top (b := ((n : Nat) : Int)) (wr_s _ _ _ _) (fun t105 => ?_)
        refine go_iconst (y := mX11_reads) (pc := 108) dX11_reads_108 ?_
        refine go_iadd (y := mX11_reads) (pc := 109) dX11_reads_109 ?_
        refine go_mput (y := mX11_reads) (pc := 110) dX11_reads_110 fp_X11_174 rfl rfl (by decide) (by omega) ?_
        refine go_goto (y := mX11_reads) (pc := 113) (tgt := 85) dX11_reads_113 (by decide) ?_
        rw [wr_wr]
        rw [rnn, if_pos (kd_1.mpr (by have := bI_1 e97 h100; omega))] at hN
        exact ih (n + 1) c (by omega) hN
  have loopD : tkK f B = 2 → ∀ (m n : Nat) (c v : Int), n + m = L → B ≤ n → rnn f 2 m n = rnn f 2 (L - B) B → nmk f (rnn f 2 (L - B) B - n) n v = nmv f L B → (0 ≤ v ∧ v ≤ 1000) → go 289 1 0 0 mX11_reads Q X 137 [.ref 276, .int (iI c)] [] (md (wr (wr (wr (wr σ 0 13 (B : Nat)) 0 14 2) 0 15 v) 0 12 (n : Nat)) ν μ) := by
    intro hk m
    have hT : tkT f B = 2 := by unfold tkT; rw [if_neg (by omega)]; exact hk
    have hE : tkE f L B = rnn f 2 (L - B) B := by unfold tkE; rw [if_neg (by omega), if_pos (by omega), hk]
    rw [hT, hE, if_pos hk] at K
    induction m with
    | zero =>
      intro n c v hn hBn hN hv vb
      refine go_aload_n (y := mX11_reads) (pc := 137) dX11_reads_137 rfl rfl ?_
      refine go_aload_n (y := mX11_reads) (pc := 138) dX11_reads_138 rfl rfl ?_
      refine go_mget (y := mX11_reads) (pc := 139) dX11_reads_139 fl_X11_174 rfl rfl (by decide) (fun r139 => ?_)
      refine go_top (b := ((n : Nat) : Int)) (wr_s _ _ _ _) (fun t139 => ?_)
      refine go_callV1 (y := mX11_reads) (pc := 142) (y' := mX11_seen) (kc2 := 0) (ks2 := 0) dX11_reads_142 ml_X11_177 ok_X11_seen (show shp 276 = _ from rfl) ⟨_, _, rfl⟩ (by decide) rfl (by decide) (Nat.le_of_ble_eq_true rfl) rfl (m_seen (okB_w (okB_w (okB_w (okB_w hB' (by decide)) (by decide)) (by decide)) (by decide)) (by omega) (fun v142 e142 b142 => ?_))
      refine go_bipush (y := mX11_reads) (pc := 145) dX11_reads_145 (by decide) ?_
      refine go_bipush (y := mX11_reads) (pc := 147) dX11_reads_147 (by decide) ?_
      refine go_callS3 (y := mX11_reads) (pc := 149) (y' := mX11_in) (kc2 := 0) (ks2 := 0) dX11_reads_149 ml_X11_86 ok_X11_in ⟨rfl, rfl, rfl⟩ (by decide) (Nat.le_of_ble_eq_true rfl) rfl (m_in (by omega) (by omega) (by omega) (fun v149 e149 b149 => ?_))
      refine go_if_eq (y := mX11_reads) (pc := 152) (tgt := 234) dX11_reads_152 (by decide) (by omega) (fun h152 => ?_) (fun h152 => ?_)
      · skip
        refine go_return (y := mX11_reads) (pc := 234) dX11_reads_234 rfl ?_
        rw [rnn] at hN
        rw [← hN, Nat.sub_self, nmk] at hv
        rw [← hN, ← hv] at K
        exact K
      · skip
        rw [if_neg (by omega)] at e142
        exact absurd (bI_1 e149 h152) (by omega)
    | succ m ih =>
      intro n c v hn hBn hN hv vb
      refine go_aload_n (y := mX11_reads) (pc := 137) dX11_reads_137 rfl rfl ?_
      refine go_aload_n (y := mX11_reads) (pc := 138) dX11_reads_138 rfl rfl ?_
      refine go_mget (y := mX11_reads) (pc := 139) dX11_reads_139 fl_X11_174 rfl rfl (by decide) (fun r139 => ?_)
      refine go_top (b := ((n : Nat) : Int)) (wr_s _ _ _ _) (fun t139 => ?_)
      refine go_callV1 (y := mX11_reads) (pc := 142) (y' := mX11_seen) (kc2 := 0) (ks2 := 0) dX11_reads_142 ml_X11_177 ok_X11_seen (show shp 276 = _ from rfl) ⟨_, _, rfl⟩ (by decide) rfl (by decide) (Nat.le_of_ble_eq_true rfl) rfl (m_seen (okB_w (okB_w (okB_w (okB_w hB' (by decide)) (by decide)) (by decide)) (by decide)) (by omega) (fun v142 e142 b142 => ?_))
      rw [if_pos (by omega)] at e142
      refine go_bipush (y := mX11_reads) (pc := 145) dX11_reads_145 (by decide) ?_
      refine go_bipush (y := mX11_reads) (pc := 147) dX11_reads_147 (by decide) ?_
      refine go_callS3 (y := mX11_reads) (pc := 149) (y' := mX11_in) (kc2 := 0) (ks2 := 0) dX11_reads_149 ml_X11_86 ok_X11_in ⟨rfl, rfl, rfl⟩ (by decide) (Nat.le_of_ble_eq_true rfl) rfl (m_in (by omega) (by omega) (by omega) (fun v149 e149 b149 => ?_))
      refine go_if_eq (y := mX11_reads) (pc := 152) (tgt := 234) dX11_reads_152 (by decide) (by omega) (fun h152 => ?_) (fun h152 => ?_)
      · skip
        refine go_return (y := mX11_reads) (pc := 234) dX11_reads_234 rfl ?_
        rw [rnn, if_neg (fun w => bI_0 e149 h152 (by have := kd_2.mp w; omega))] at hN
        rw [← hN, Nat.sub_self, nmk] at hv
        rw [← hN, ← hv] at K
        exact K
      · skip
        have g := bI_1 e149 h152
        refine go_aload_n (y := mX11_reads) (pc := 155) dX11_reads_155 rfl rfl ?_
        refine go_sipush (y := mX11_reads) (pc := 156) dX11_reads_156 (by decide) ?_
        refine go_bipush (y := mX11_reads) (pc := 159) dX11_reads_159 (by decide) ?_
        refine go_aload_n (y := mX11_reads) (pc := 161) dX11_reads_161 rfl rfl ?_
        refine go_mget (y := mX11_reads) (pc := 162) dX11_reads_162 fl_X11_186 rfl rfl (by decide) (fun r162 => ?_)
        refine go_top (b := v) (((wr_ni (by decide)).trans (wr_s _ _ _ _))) (fun t162 => ?_)
        refine go_imul (y := mX11_reads) (pc := 165) dX11_reads_165 ?_
        refine go_aload_n (y := mX11_reads) (pc := 166) dX11_reads_166 rfl rfl ?_
        refine go_aload_n (y := mX11_reads) (pc := 167) dX11_reads_167 rfl rfl ?_
        refine go_mget (y := mX11_reads) (pc := 168) dX11_reads_168 fl_X11_174 rfl rfl (by decide) (fun r168 => ?_)
        refine go_top (b := ((n : Nat) : Int)) (wr_s _ _ _ _) (fun t168 => ?_)
        refine go_callV1 (y := mX11_reads) (pc := 171) (y' := mX11_seen) (kc2 := 0) (ks2 := 0) dX11_reads_171 ml_X11_177 ok_X11_seen (show shp 276 = _ from rfl) ⟨_, _, rfl⟩ (by decide) rfl (by decide) (Nat.le_of_ble_eq_true rfl) rfl (m_seen (okB_w (okB_w (okB_w (okB_w hB' (by decide)) (by decide)) (by decide)) (by decide)) (by omega) (fun v171 e171 b171 => ?_))
        rw [if_pos (by omega)] at e171
        refine go_iadd (y := mX11_reads) (pc := 174) dX11_reads_174 ?_
        refine go_bipush (y := mX11_reads) (pc := 175) dX11_reads_175 (by decide) ?_
        refine go_isub (y := mX11_reads) (pc := 177) dX11_reads_177 ?_
        refine go_mmin (y := mX11_reads) (pc := 178) dX11_reads_178 ml_X11_117 (by decide) (Nat.le_of_ble_eq_true rfl) (by omega) (by omega) ?_
        refine go_mput (y := mX11_reads) (pc := 181) dX11_reads_181 fp_X11_186 rfl rfl (by decide) (by omega) ?_
        refine go_aload_n (y := mX11_reads) (pc := 184) dX11_reads_184 rfl rfl ?_
        refine go_dup (y := mX11_reads) (pc := 185) dX11_reads_185 rfl ?_
        refine go_mget (y := mX11_reads) (pc := 186) dX11_reads_186 fl_X11_174 rfl rfl (by decide) (fun r186 => ?_)
        refine go_top (b := ((n : Nat) : Int)) (((wr_ni (by decide)).trans (wr_s _ _ _ _))) (fun t186 => ?_)
        refine go_iconst (y := mX11_reads) (pc := 189) dX11_reads_189 ?_
        refine go_iadd (y := mX11_reads) (pc := 190) dX11_reads_190 ?_
        refine go_mput (y := mX11_reads) (pc := 191) dX11_reads_191 fp_X11_174 rfl rfl (by decide) (by omega) ?_
        refine go_goto (y := mX11_reads) (pc := 194) (tgt := 137) dX11_reads_194 (by decide) ?_
        rw [rnn, if_pos (kd_2.mpr (by omega))] at hN
        have hb := rnn_b (f := f) (k := 2) m (n + 1)
        refine go_mem ?_ (ih (n + 1) c (min 1000 (10 * v + v171 - 48)) (by omega) (by omega) hN ?_ (by omega))
        · refine congrArg (fun t => md t ν μ) ?_
          show wr (wr (wr (wr (wr (wr σ 0 13 (B : Nat)) 0 14 2) 0 15 v) 0 12 (n : Nat)) 0 15 _) 0 12 _ = _
          rw [wr_cm (i := 12) (j := 15) (by decide), wr_wr, wr_wr]
          rfl
        · rw [← hv, show rnn f 2 (L - B) B - n = (rnn f 2 (L - B) B - (n + 1)) + 1 by omega, nmk, e171]
  have J39 : go 289 1 0 0 mX11_reads Q X 39 [.ref 276, .null] [] (md (wr σ 0 12 (B : Nat)) ν μ) := by
    have ekd : tkK f B = kd (f B) := rfl
    have e12 : ∀ v : Int, wr (wr σ 0 12 (B : Nat)) 0 13 v = wr (wr σ 0 13 v) 0 12 (B : Nat) := fun v => wr_cm (by decide)
    have J197 : B < L → tkK f B ≠ 1 → tkK f B ≠ 2 → ∀ c : Int, c = f B → go 289 1 0 0 mX11_reads Q X 197 [.ref 276, .int (iI c)] [] (md (wr (wr σ 0 13 (B : Nat)) 0 12 (B : Nat)) ν μ) := by
      intro hlt k1 k2 c hc
      have hfb := fB hlt
      have g32 : ¬ (f B = 32 ∨ f B = 10) := by
        intro w
        have hno : ∀ (n p : Nat), p + n = L → ¬ (skp f n p < L ∧ kd (f (skp f n p : Nat)) = 4) := by
          intro n
          induction n with
          | zero => intro p hp; rw [skp]; omega
          | succ n ih =>
            intro p hp
            rw [skp]
            by_cases g : kd (f (p : Int)) = 4
            · rw [if_pos g]; exact ih (p + 1) (by omega)
            · rw [if_neg g]; exact fun w => g w.2
        have h9 := hno (L - e) e (by omega)
        have eB2 : skp f (L - e) e = B := eB.symm
        rw [eB2] at h9
        exact h9 ⟨hlt, kd_4.mpr w⟩
      have hk3 : tkK f B = 3 := by
        have h1 := kd_b (f B)
        have h2 : kd (f B) ≠ 4 := fun w => g32 (kd_4.mp w)
        have h3 : kd (f B) ≠ 0 := fun w => by have := kd_0.mp w; omega
        omega
      have hE : tkE f L B = B + 1 := by unfold tkE; rw [if_pos hk3]
      have hT : tkT f B = if f B = 59 ∨ f B = 40 ∨ f B = 41 then 3 else 4 := by unfold tkT; rw [if_pos hk3]
      rw [hE, hT, if_neg k2] at K
      have J221 : ∀ t : Int, (t = 3 ∨ t = 4) → t = (if f B = 59 ∨ f B = 40 ∨ f B = 41 then 3 else 4) → go 289 1 0 0 mX11_reads Q X 221 [.ref 276, .int (iI c)] [.int (iI t), .ref 276] (md (wr (wr σ 0 13 (B : Nat)) 0 12 (B : Nat)) ν μ) := by
        intro t tb ht
        refine go_mput (y := mX11_reads) (pc := 221) dX11_reads_221 fp_X11_183 rfl rfl (by decide) (by omega) ?_
        refine go_aload_n (y := mX11_reads) (pc := 224) dX11_reads_224 rfl rfl ?_
        refine go_dup (y := mX11_reads) (pc := 225) dX11_reads_225 rfl ?_
        refine go_mget (y := mX11_reads) (pc := 226) dX11_reads_226 fl_X11_174 rfl rfl (by decide) (fun r226 => ?_)
        refine go_top (b := ((B : Nat) : Int)) (((wr_ni (by decide)).trans (wr_s _ _ _ _))) (fun t226 => ?_)
        refine go_iconst (y := mX11_reads) (pc := 229) dX11_reads_229 ?_
        refine go_iadd (y := mX11_reads) (pc := 230) dX11_reads_230 ?_
        refine go_mput (y := mX11_reads) (pc := 231) dX11_reads_231 fp_X11_174 rfl rfl (by decide) (by omega) ?_
        refine go_return (y := mX11_reads) (pc := 234) dX11_reads_234 rfl ?_
        rw [← ht, show wr (wr (wr σ 0 13 (B : Nat)) 0 14 t) 0 15 (σ 0 15) = wr (wr σ 0 13 (B : Nat)) 0 14 t from wr_id (by rw [wr_ni (by decide), wr_ni (by decide)])] at K
        rw [wr_cm (i := 12) (j := 14) (by decide), wr_wr]
        exact K
      refine go_aload_n (y := mX11_reads) (pc := 197) dX11_reads_197 rfl rfl ?_
      refine go_iload_n (y := mX11_reads) (pc := 198) dX11_reads_198 rfl rfl ?_
      refine go_bipush (y := mX11_reads) (pc := 199) dX11_reads_199 (by decide) ?_
      refine go_icmp_eq (y := mX11_reads) (pc := 201) (tgt := 216) dX11_reads_201 (by decide) (by omega) (by omega) (fun h201 => ?_) (fun h201 => ?_)
      · skip
        refine go_iconst (y := mX11_reads) (pc := 216) dX11_reads_216 ?_
        refine go_goto (y := mX11_reads) (pc := 217) (tgt := 221) dX11_reads_217 (by decide) ?_
        exact J221 3 (by decide) (by rw [if_pos (by omega)])
      · skip
        refine go_iload_n (y := mX11_reads) (pc := 204) dX11_reads_204 rfl rfl ?_
        refine go_bipush (y := mX11_reads) (pc := 205) dX11_reads_205 (by decide) ?_
        refine go_icmp_eq (y := mX11_reads) (pc := 207) (tgt := 216) dX11_reads_207 (by decide) (by omega) (by omega) (fun h207 => ?_) (fun h207 => ?_)
        · skip
          refine go_iconst (y := mX11_reads) (pc := 216) dX11_reads_216 ?_
          refine go_goto (y := mX11_reads) (pc := 217) (tgt := 221) dX11_reads_217 (by decide) ?_
          exact J221 3 (by decide) (by rw [if_pos (by omega)])
        · skip
          refine go_iload_n (y := mX11_reads) (pc := 210) dX11_reads_210 rfl rfl ?_
          refine go_bipush (y := mX11_reads) (pc := 211) dX11_reads_211 (by decide) ?_
          refine go_icmp_ne (y := mX11_reads) (pc := 213) (tgt := 220) dX11_reads_213 (by decide) (by omega) (by omega) (fun h213 => ?_) (fun h213 => ?_)
          · skip
            refine go_iconst (y := mX11_reads) (pc := 220) dX11_reads_220 ?_
            exact J221 4 (by decide) (by rw [if_neg (by omega)])
          · skip
            refine go_iconst (y := mX11_reads) (pc := 216) dX11_reads_216 ?_
            refine go_goto (y := mX11_reads) (pc := 217) (tgt := 221) dX11_reads_217 (by decide) ?_
            exact J221 3 (by decide) (by rw [if_pos (by omega)])
    refine go_aload_n (y := mX11_reads) (pc := 39) dX11_reads_39 rfl rfl ?_
    refine go_aload_n (y := mX11_reads) (pc := 40) dX11_reads_40 rfl rfl ?_
    refine go_mget (y := mX11_reads) (pc := 41) dX11_reads_41 fl_X11_174 rfl rfl (by decide) (fun r41 => ?_)
    refine go_top (b := ((B : Nat) : Int)) (wr_s _ _ _ _) (fun t41 => ?_)
    refine go_mput (y := mX11_reads) (pc := 44) dX11_reads_44 fp_X11_180 rfl rfl (by decide) (by omega) ?_
    rw [e12]
    refine go_aload_n (y := mX11_reads) (pc := 47) dX11_reads_47 rfl rfl ?_
    refine go_aload_n (y := mX11_reads) (pc := 48) dX11_reads_48 rfl rfl ?_
    refine go_mget (y := mX11_reads) (pc := 49) dX11_reads_49 fl_X11_174 rfl rfl (by decide) (fun r49 => ?_)
    refine go_top (b := ((B : Nat) : Int)) (wr_s _ _ _ _) (fun t49 => ?_)
    refine go_callV1 (y := mX11_reads) (pc := 52) (y' := mX11_seen) (kc2 := 0) (ks2 := 0) dX11_reads_52 ml_X11_177 ok_X11_seen (show shp 276 = _ from rfl) ⟨_, _, rfl⟩ (by decide) rfl (by decide) (Nat.le_of_ble_eq_true rfl) rfl (m_seen (okB_w (okB_w hB' (by decide)) (by decide)) (by omega) (fun v52 e52 b52 => ?_))
    refine go_istore_n (y := mX11_reads) (pc := 55) dX11_reads_55 rfl (by decide) ?_
    refine go_iload_n (y := mX11_reads) (pc := 56) dX11_reads_56 rfl rfl ?_
    refine go_iconst (y := mX11_reads) (pc := 57) dX11_reads_57 ?_
    refine go_icmp_ne (y := mX11_reads) (pc := 58) (tgt := 69) dX11_reads_58 (by decide) (by omega) (by omega) (fun h58 => ?_) (fun h58 => ?_)
    · skip
      have hlt : B < L := by
        by_cases g : B < L
        · exact g
        · rw [if_neg g] at e52; exact absurd e52 h58
      rw [if_pos hlt] at e52
      refine go_iload_n (y := mX11_reads) (pc := 69) dX11_reads_69 rfl rfl ?_
      refine go_bipush (y := mX11_reads) (pc := 70) dX11_reads_70 (by decide) ?_
      refine go_bipush (y := mX11_reads) (pc := 72) dX11_reads_72 (by decide) ?_
      refine go_callS3 (y := mX11_reads) (pc := 74) (y' := mX11_in) (kc2 := 0) (ks2 := 0) dX11_reads_74 ml_X11_86 ok_X11_in ⟨rfl, rfl, rfl⟩ (by decide) (Nat.le_of_ble_eq_true rfl) rfl (m_in (by omega) (by omega) (by omega) (fun v74 e74 b74 => ?_))
      refine go_if_eq (y := mX11_reads) (pc := 77) (tgt := 116) dX11_reads_77 (by decide) (by omega) (fun h77 => ?_) (fun h77 => ?_)
      · skip
        have g1 := bI_0 e74 h77
        refine go_iload_n (y := mX11_reads) (pc := 116) dX11_reads_116 rfl rfl ?_
        refine go_bipush (y := mX11_reads) (pc := 117) dX11_reads_117 (by decide) ?_
        refine go_bipush (y := mX11_reads) (pc := 119) dX11_reads_119 (by decide) ?_
        refine go_callS3 (y := mX11_reads) (pc := 121) (y' := mX11_in) (kc2 := 0) (ks2 := 0) dX11_reads_121 ml_X11_86 ok_X11_in ⟨rfl, rfl, rfl⟩ (by decide) (Nat.le_of_ble_eq_true rfl) rfl (m_in (by omega) (by omega) (by omega) (fun v121 e121 b121 => ?_))
        refine go_if_eq (y := mX11_reads) (pc := 124) (tgt := 197) dX11_reads_124 (by decide) (by omega) (fun h124 => ?_) (fun h124 => ?_)
        · skip
          have g2 := bI_0 e121 h124
          exact J197 hlt (fun w => g1 (by have := kd_1.mp w; omega)) (fun w => g2 (by have := kd_2.mp w; omega)) _ e52
        · skip
          have g2 := bI_1 e121 h124
          have hk : tkK f B = 2 := kd_2.mpr (by omega)
          refine go_aload_n (y := mX11_reads) (pc := 127) dX11_reads_127 rfl rfl ?_
          refine go_iconst (y := mX11_reads) (pc := 128) dX11_reads_128 ?_
          refine go_mput (y := mX11_reads) (pc := 129) dX11_reads_129 fp_X11_183 rfl rfl (by decide) (by omega) ?_
          refine go_aload_n (y := mX11_reads) (pc := 132) dX11_reads_132 rfl rfl ?_
          refine go_iconst (y := mX11_reads) (pc := 133) dX11_reads_133 ?_
          refine go_mput (y := mX11_reads) (pc := 134) dX11_reads_134 fp_X11_186 rfl rfl (by decide) (by omega) ?_
          rw [wr_cm (i := 12) (j := 14) (by decide), wr_cm (i := 12) (j := 15) (by decide)]
          exact loopD hk (L - B) B _ 0 (by omega) (by omega) rfl rfl (by decide)
      · skip
        have g1 := bI_1 e74 h77
        have hk : tkK f B = 1 := kd_1.mpr (by omega)
        refine go_aload_n (y := mX11_reads) (pc := 80) dX11_reads_80 rfl rfl ?_
        refine go_iconst (y := mX11_reads) (pc := 81) dX11_reads_81 ?_
        refine go_mput (y := mX11_reads) (pc := 82) dX11_reads_82 fp_X11_183 rfl rfl (by decide) (by omega) ?_
        rw [wr_cm (i := 12) (j := 14) (by decide)]
        exact loopW hk (L - B) B _ (by omega) rfl
    · skip
      have hge : B = L := by
        by_cases g : B < L
        · have := fB g
          rw [if_pos g] at e52
          omega
        · omega
      have hk : tkK f B = 0 := kd_0.mpr (fL hge)
      have hE : tkE f L B = B := by unfold tkE; rw [if_neg (by omega), if_neg (by omega)]
      have hT : tkT f B = 0 := by unfold tkT; rw [if_neg (by omega)]; exact hk
      rw [hE, hT, if_neg (by omega), show wr (wr (wr σ 0 13 (B : Nat)) 0 14 0) 0 15 (σ 0 15) = wr (wr σ 0 13 (B : Nat)) 0 14 0 from wr_id (by rw [wr_ni (by decide), wr_ni (by decide)])] at K
      refine go_aload_n (y := mX11_reads) (pc := 61) dX11_reads_61 rfl rfl ?_
      refine go_iconst (y := mX11_reads) (pc := 62) dX11_reads_62 ?_
      refine go_mput (y := mX11_reads) (pc := 63) dX11_reads_63 fp_X11_183 rfl rfl (by decide) (by omega) ?_
      refine go_goto (y := mX11_reads) (pc := 66) (tgt := 234) dX11_reads_66 (by decide) ?_
      refine go_return (y := mX11_reads) (pc := 234) dX11_reads_234 rfl ?_
      rw [wr_cm (i := 12) (j := 14) (by decide)]
      exact K
  have loop1 : ∀ (n b : Nat), b + n = L → skp f n b = B → go 289 1 0 0 mX11_reads Q X 0 [.ref 276, .null] [] (md (wr σ 0 12 (b : Nat)) ν μ) := by
    intro n
    induction n with
    | zero =>
      intro b hb hB2
      rw [skp] at hB2
      subst hB2
      refine go_aload_n (y := mX11_reads) (pc := 0) dX11_reads_0 rfl rfl ?_
      refine go_aload_n (y := mX11_reads) (pc := 1) dX11_reads_1 rfl rfl ?_
      refine go_mget (y := mX11_reads) (pc := 2) dX11_reads_2 fl_X11_174 rfl rfl (by decide) (fun r2 => ?_)
      refine go_top (b := ((b : Nat) : Int)) (wr_s _ _ _ _) (fun t2 => ?_)
      refine go_callV1 (y := mX11_reads) (pc := 5) (y' := mX11_seen) (kc2 := 0) (ks2 := 0) dX11_reads_5 ml_X11_177 ok_X11_seen (show shp 276 = _ from rfl) ⟨_, _, rfl⟩ (by decide) rfl (by decide) (Nat.le_of_ble_eq_true rfl) rfl (m_seen (okB_w hB' (by decide)) (by omega) (fun v5 e5 b5 => ?_))
      rw [if_neg (by omega)] at e5
      refine go_bipush (y := mX11_reads) (pc := 8) dX11_reads_8 (by decide) ?_
      refine go_icmp_eq (y := mX11_reads) (pc := 10) (tgt := 26) dX11_reads_10 (by decide) (by omega) (by omega) (fun h10 => ?_) (fun h10 => ?_)
      · skip
        exact absurd h10 (by omega)
      · skip
        refine go_aload_n (y := mX11_reads) (pc := 13) dX11_reads_13 rfl rfl ?_
        refine go_aload_n (y := mX11_reads) (pc := 14) dX11_reads_14 rfl rfl ?_
        refine go_mget (y := mX11_reads) (pc := 15) dX11_reads_15 fl_X11_174 rfl rfl (by decide) (fun r15 => ?_)
        refine go_top (b := ((b : Nat) : Int)) (wr_s _ _ _ _) (fun t15 => ?_)
        refine go_callV1 (y := mX11_reads) (pc := 18) (y' := mX11_seen) (kc2 := 0) (ks2 := 0) dX11_reads_18 ml_X11_177 ok_X11_seen (show shp 276 = _ from rfl) ⟨_, _, rfl⟩ (by decide) rfl (by decide) (Nat.le_of_ble_eq_true rfl) rfl (m_seen (okB_w hB' (by decide)) (by omega) (fun v18 e18 b18 => ?_))
        rw [if_neg (by omega)] at e18
        refine go_bipush (y := mX11_reads) (pc := 21) dX11_reads_21 (by decide) ?_
        refine go_icmp_ne (y := mX11_reads) (pc := 23) (tgt := 39) dX11_reads_23 (by decide) (by omega) (by omega) (fun h23 => ?_) (fun h23 => ?_)
        · skip
          exact J39
        · skip
          exact absurd h23 (by omega)
    | succ n ih =>
      intro b hb hB2
      have J26 : kd (f (b : Int)) = 4 → go 289 1 0 0 mX11_reads Q X 26 [.ref 276, .null] [] (md (wr σ 0 12 (b : Nat)) ν μ) := by
        intro g
        refine go_aload_n (y := mX11_reads) (pc := 26) dX11_reads_26 rfl rfl ?_
        refine go_dup (y := mX11_reads) (pc := 27) dX11_reads_27 rfl ?_
        refine go_mget (y := mX11_reads) (pc := 28) dX11_reads_28 fl_X11_174 rfl rfl (by decide) (fun r28 => ?_)
        refine go_top (b := ((b : Nat) : Int)) (wr_s _ _ _ _) (fun t28 => ?_)
        refine go_iconst (y := mX11_reads) (pc := 31) dX11_reads_31 ?_
        refine go_iadd (y := mX11_reads) (pc := 32) dX11_reads_32 ?_
        refine go_mput (y := mX11_reads) (pc := 33) dX11_reads_33 fp_X11_174 rfl rfl (by decide) (by omega) ?_
        refine go_goto (y := mX11_reads) (pc := 36) (tgt := 0) dX11_reads_36 (by decide) ?_
        rw [wr_wr]
        rw [skp, if_pos g] at hB2
        exact ih (b + 1) (by omega) hB2
      refine go_aload_n (y := mX11_reads) (pc := 0) dX11_reads_0 rfl rfl ?_
      refine go_aload_n (y := mX11_reads) (pc := 1) dX11_reads_1 rfl rfl ?_
      refine go_mget (y := mX11_reads) (pc := 2) dX11_reads_2 fl_X11_174 rfl rfl (by decide) (fun r2 => ?_)
      refine go_top (b := ((b : Nat) : Int)) (wr_s _ _ _ _) (fun t2 => ?_)
      refine go_callV1 (y := mX11_reads) (pc := 5) (y' := mX11_seen) (kc2 := 0) (ks2 := 0) dX11_reads_5 ml_X11_177 ok_X11_seen (show shp 276 = _ from rfl) ⟨_, _, rfl⟩ (by decide) rfl (by decide) (Nat.le_of_ble_eq_true rfl) rfl (m_seen (okB_w hB' (by decide)) (by omega) (fun v5 e5 b5 => ?_))
      rw [if_pos (by omega)] at e5
      refine go_bipush (y := mX11_reads) (pc := 8) dX11_reads_8 (by decide) ?_
      refine go_icmp_eq (y := mX11_reads) (pc := 10) (tgt := 26) dX11_reads_10 (by decide) (by omega) (by omega) (fun h10 => ?_) (fun h10 => ?_)
      · skip
        exact J26 (kd_4.mpr (by omega))
      · skip
        refine go_aload_n (y := mX11_reads) (pc := 13) dX11_reads_13 rfl rfl ?_
        refine go_aload_n (y := mX11_reads) (pc := 14) dX11_reads_14 rfl rfl ?_
        refine go_mget (y := mX11_reads) (pc := 15) dX11_reads_15 fl_X11_174 rfl rfl (by decide) (fun r15 => ?_)
        refine go_top (b := ((b : Nat) : Int)) (wr_s _ _ _ _) (fun t15 => ?_)
        refine go_callV1 (y := mX11_reads) (pc := 18) (y' := mX11_seen) (kc2 := 0) (ks2 := 0) dX11_reads_18 ml_X11_177 ok_X11_seen (show shp 276 = _ from rfl) ⟨_, _, rfl⟩ (by decide) rfl (by decide) (Nat.le_of_ble_eq_true rfl) rfl (m_seen (okB_w hB' (by decide)) (by omega) (fun v18 e18 b18 => ?_))
        rw [if_pos (by omega)] at e18
        refine go_bipush (y := mX11_reads) (pc := 21) dX11_reads_21 (by decide) ?_
        refine go_icmp_ne (y := mX11_reads) (pc := 23) (tgt := 39) dX11_reads_23 (by decide) (by omega) (by omega) (fun h23 => ?_) (fun h23 => ?_)
        · skip
          rw [skp, if_neg (fun w => by have := kd_4.mp w; omega)] at hB2
          subst hB2
          exact J39
        · skip
          exact J26 (kd_4.mpr (by omega))
  have h := loop1 (L - e) e (by omega) eB.symm
  rw [wr_id he] at h
  exact h
end MRead
