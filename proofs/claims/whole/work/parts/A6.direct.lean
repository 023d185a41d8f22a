/-! CALLS WITHOUT A WRAPPER; forecasts; doubles -/
def Mq2 (v : Int) : Option Value → Mem → Prop := fun r μ2 => r = some (.int (iI v)) ∧ INV μ2
def Mp2 (y : MI) (as : List Value) (v : Int) (μ : Mem) : Prop := mt 289 16 0 0 y (.ref 276 :: as) (Mq2 v) (fun _ _ => False) μ
def Qd (y : MI) (as : List Value) : Option Value → Mem → Prop := fun r μ1 => ∃ v : Int, r = some (.int (iI v)) ∧ rng v ∧ Mp2 y as v μ1
def Td (yC y : MI) (as : List Value) (μ : Mem) : Prop := mt 276 16 3 246 yC (.ref 0 :: as) (Qd y as) (fun _ _ => False) μ
section Direct
variable {μ N : Mem}
theorem dok {y : MI} {as : List Value} {V : Int} (h : Mp2 y as (wp V) μ) : Qd y as (some (.int (iI V))) μ := ⟨wp V, by rw [iI_wp], wp_rng V, h⟩
theorem to_d {d kc ks : Nat} {yC y : MI} {as : List Value} (hd : d ≤ 16) (hk : kc ≤ 3) (hs : ks ≤ 246) (K : mt 276 d kc ks yC (.ref 0 :: as) (Qd y as) (fun _ _ => False) μ) : Td yC y as μ := mt_up K (Nat.le_refl _) hd hk hs
theorem to_m2 {d : Nat} {y : MI} {as : List Value} {v : Int} (hd : d ≤ 16) (K : mt 289 d 0 0 y (.ref 276 :: as) (Mq2 v) (fun _ _ => False) (md (vw 276 μ) (μ 277) μ)) : Mp2 y as v μ := by
  rw [md_v] at K
  exact mt_up K (Nat.le_refl _) hd (Nat.le_refl _) (Nat.le_refl _)
theorem rd2 {v b : Int} (h : INV μ) (hb : iI b = iI v) : Mq2 v (some (.int (iI b))) (md (wr (vw 276 μ) 0 7 0) (μ 277) μ) := by
  rw [md_f1]
  exact ⟨by rw [hb], inv_sam h (sam_w (Or.inr (Or.inr (Or.inr ⟨rfl, Or.inl rfl⟩))))⟩
theorem D_undoCount (h : INV μ) : Td mX10_undoCount mX11_undoCount [] μ := by
  refine to_d (by decide) (by decide) (by decide) (to_c (g_undoCount (iS h) (iC h) (dok ?_)))
  rw [pvw]
  obtain ⟨-, -, -, -, w5, -⟩ := (inv_at h).2.2.2.2.1.choose_spec
  exact to_m2 (by decide) (m_undoCount (rd2 h (by rw [iI_wp, wr_ni (by decide), ← w5]; rfl)))
theorem D_errorCode (h : INV μ) : Td mX10_errorCode mX11_errorCode [] μ := by
  refine to_d (by decide) (by decide) (by decide) (to_c (g_errorCode (iS h) (iC h) (dok ?_)))
  rw [pvw]
  exact to_m2 (by decide) (m_errorCode (rd2 h (by rw [iI_wp, wr_ni (by decide), (inv_at h).2.2.2.1.1]; rfl)))
theorem D_errorPosition (h : INV μ) : Td mX10_errorPosition mX11_errorPosition [] μ := by
  refine to_d (by decide) (by decide) (by decide) (to_c (g_errorPosition (iS h) (iC h) (dok ?_)))
  rw [pvw]
  exact to_m2 (by decide) (m_errorPosition (rd2 h (by rw [iI_wp, wr_ni (by decide), (inv_at h).2.2.2.1.2]; rfl)))
theorem D_memberCount (h : INV μ) : Td mX10_memberCount mX11_memberCount [] μ := by
  refine to_d (by decide) (by decide) (by decide) (to_c (g_memberCount (iS h) (iC h) (dok ?_)))
  rw [pvw]
  exact to_m2 (by decide) (m_memberCount (iR h) (iS h) (iC h) (rd2 h (iI_wp _).symm))
theorem D_motionCount (h : INV μ) : Td mX10_motionCount mX11_motionCount [] μ := by
  refine to_d (by decide) (by decide) (by decide) (to_c (g_motionCount (iS h) (iC h) (dok ?_)))
  rw [pvw]
  exact to_m2 (by decide) (m_motionCount (iR h) (iS h) (iC h) (rd2 h (iI_wp _).symm))
theorem D_chairCount (h : INV μ) : Td mX10_chairCount mX11_chairCount [] μ := by
  refine to_d (by decide) (by decide) (by decide) (to_c (g_chairCount (iS h) (iC h) (dok ?_)))
  rw [pvw]
  exact to_m2 (by decide) (m_chairCount (iR h) (iS h) (iC h) (rd2 h (iI_wp _).symm))
theorem D_minute (h : INV μ) : Td mX10_minute mX11_minute [] μ := by
  refine to_d (by decide) (by decide) (by decide) (to_c (g_minute (iS h) (iC h) (dok ?_)))
  rw [pvw]
  exact to_m2 (by decide) (m_minute (iR h) (iS h) (iC h) (rd2 h (iI_wp _).symm))
theorem D_ranking (h : INV μ) : Td mX10_ranking mX11_ranking [] μ := by
  refine to_d (by decide) (by decide) (by decide) (to_c (g_ranking (iS h) (iC h) (dok ?_)))
  rw [pvw]
  exact to_m2 (by decide) (m_ranking (iR h) (iS h) (iC h) (rd2 h (iI_wp _).symm))
theorem D_requestCount (h : INV μ) : Td mX10_requestCount mX11_requestCount [] μ := by
  refine to_d (by decide) (by decide) (by decide) (to_c (g_requestCount (iS h) (iC h) (dok ?_)))
  rw [pvw]
  exact to_m2 (by decide) (m_requestCount (iR h) (iS h) (iC h) (rd2 h (iI_wp _).symm))
theorem D_tips (h : INV μ) : Td mX10_tips mX11_tips [] μ := by
  refine to_d (by decide) (by decide) (by decide) (to_c (g_tips (iS h) (iC h) (dok ?_)))
  rw [pvw]
  exact to_m2 (by decide) (m_tips (iR h) (iS h) (iC h) (rd2 h (iI_wp _).symm))
theorem D_voteCount (h : INV μ) : Td mX10_voteCount mX11_voteCount [] μ := by
  refine to_d (by decide) (by decide) (by decide) (to_c (g_voteCount (iS h) (iC h) (dok ?_)))
  rw [pvw]
  exact to_m2 (by decide) (m_voteCount (iR h) (iS h) (iC h) (rd2 h (iI_wp _).symm))
theorem D_rebuttalCount (h : INV μ) : Td mX10_rebuttalCount mX11_rebuttalCount [] μ := by
  refine to_d (by decide) (by decide) (by decide) (to_c (g_rebuttalCount (iS h) (iC h) (dok ?_)))
  rw [pvw]
  exact to_m2 (by decide) (m_rebuttalCount (iR h) (iS h) (iC h) (rd2 h (iI_wp _).symm))
theorem D_freeMirrors (h : INV μ) : Td mX10_freeMirrors mX11_freeMirrors [] μ := by
  refine to_d (by decide) (by decide) (by decide) (to_c (g_freeMirrors (iS h) (iC h) (dok ?_)))
  rw [pvw]
  exact to_m2 (by decide) (m_freeMirrors (iR h) (iS h) (iC h) (rd2 h (iI_wp _).symm))
theorem D_contradictions (h : INV μ) : Td mX10_contradictions mX11_contradictions [] μ := by
  refine to_d (by decide) (by decide) (by decide) (to_c (g_contradictions (iS h) (iC h) (dok ?_)))
  rw [pvw]
  exact to_m2 (by decide) (m_contradictions (iR h) (iS h) (iC h) (rd2 h (iI_wp _).symm))
/-! findMember, outputs -/
theorem D_findMember (h : INV μ) : Td mX10_findMember mX11_findMember [] μ := by
  obtain ⟨f, L, ⟨c1, c2, c3⟩, oB⟩ := (inv_at h).2.2.1
  have pN := (inv_at h).2.1
  obtain ⟨n1, n12, -, -⟩ := wf_n (iS h)
  have n1 : 1 ≤ μ 10 7 := n1
  have n12 : μ 10 7 ≤ 12 := n12
  refine to_d (by decide) (by decide) (by decide) (to_c (g_findMember c2 c3 (by omega) n12 (fun v hv hb => dok ?_)))
  rw [pvw]
  refine to_m2 (by decide) (m_findMember oB (iR h) (iS h) (fun v' hv' hb' => rd2 h ?_))
  have e : v' = v := by
    rw [hv, hv', c1]
    by_cases g : 1 ≤ L ∧ L ≤ 6 ∧ ltr f L 0 = true
    · rw [if_pos g]
      have e1 : nbt f 0 L = p32 f L 0 0 := by
        unfold nbt
        rw [Nat.sub_zero, if_neg (by omega), if_pos g.2.2]
      rw [e1, ← n27_p g.2.2 g.2.1]
      exact fnd_n27 (g := fun m => su μ 1 m) (fun k hk => (pN k (by have : ((su μ 0 7).toNat : Int) = su μ 0 7 := Int.toNat_of_nonneg (by show 0 ≤ μ 10 7; omega); omega)).1) (by rw [← e1]; exact isn_nbt)
    · rw [if_neg g]
      have e1 : nbt f 0 L = 0 := by
        unfold nbt
        rw [Nat.sub_zero]
        by_cases g6 : 6 < L
        · rw [if_pos g6]
        · rw [if_neg g6]
          by_cases gl : ltr f L 0 = true
          · rw [if_pos gl]
            have e0 : L = 0 := by
              rcases Nat.eq_zero_or_pos L with q | q
              · exact q
              · exact absurd ⟨q, by omega, gl⟩ g
            rw [e0]
            rfl
          · rw [if_neg gl]
      rw [e1]
      refine (fnd_0 (fun k hk he => ?_)).symm
      have g2 := (pN k (by show (k : Int) < μ 10 7; omega)).2
      have g3 : 0 < μ 11 k := g2
      omega
  rw [e, iI_wp]
theorem D_outputByte {a : Int} (h : INV μ) (ha : rng a) : Td mX10_outputByte mX11_outputByte [.int (iI a)] μ := by
  obtain ⟨l, g1, g2, g3, g4⟩ := (inv_at h).2.2.2.2.2.2.1
  obtain ⟨b1, b2, b3⟩ := (inv_at h).2.2.2.2.2.2.2.1
  refine to_d (by decide) (by decide) (by decide) (g_outputByte ha g1 b1 b3 b2 g4 (fun k c hk hc => dok ?_) (fun hn => dok ?_))
  · refine to_m2 (by decide) (m_outputByte ha g2 (by omega) (fun k' c' hk' hc' => ?_) (fun hn => ?_))
    · have e : k' = k := by omega
      subst e
      rw [hc] at hc'
      cases hc'
      exact rd2 h (iI_wp _).symm
    · have := (List.getElem?_eq_some_iff.mp hc).1
      exact absurd hn (by omega)
  · refine to_m2 (by decide) (m_outputByte ha g2 (by omega) (fun k' c' hk' hc' => ?_) (fun hn => rd2 h (iI_wp _).symm))
    have := (List.getElem?_eq_some_iff.mp hc').1
    exact absurd hn (by omega)
theorem inv_o (hI : INV μ) (zz : ∀ b j, hng b j → b ≠ 288 → b < 5000 → (b ≠ 276 ∨ j ≠ 26) → N b j = μ b j) (n277 : ∀ j, j < 418 → N 277 j = μ 277 j) (pO : iOu N) (pB : iBu N) : INV N := by
  obtain ⟨⟨a1, a2, a3⟩, b, c, d, e, f, o, k, m⟩ := inv_at hI
  have eS : su N = su μ := su_f (fun b j h1 h2 => zz b j (by unfold hng; omega) (by omega) (by omega) (by omega))
  refine inv_mk (kCh a1 a2 (rel_n a1 a2 a3 n277) eS (fun r j hr => zz _ _ (by unfold hng; omega) (by omega) (by omega) (by omega))) (kNm eS b) (kTx ?_ (fun k => ?_) ?_ (fun i => ?_) c) (kEr ?_ ?_ ?_ ?_ d) (kHs a1 eS (fun b j _ _ => ?_) ?_ ?_ ?_ (fun i => ?_) e) (kSl a1 eS (fun b j _ _ => ?_) (fun i => ?_) (fun i => ?_) (fun i => ?_) f) pO pB ((?_ : N 276 24 = μ 276 24).trans m)
  all_goals exact zz _ _ (by unfold hng; omega) (by omega) (by omega) (by omega)
/-- both have written l -/
theorem out_ok {l : List Int} {μ' σ' : Mem} (h : INV μ) (hO : OL l μ') (he : eqO μ' μ) (hc : chn (μ' 5002 0)) (hf : μ' 5000 0 ≤ μ' 5002 0) (hM : OM l σ') (hs : smW σ' (wr (vw 276 (put 20 (vw 20 μ) μ')) 0 7 0)) (hl : l.length ≤ 142) (hb : ∀ c ∈ l, 0 ≤ c ∧ c < 128) {ν' : Nat → Int} (hν : ∀ j, j < 418 → ν' j = μ 277 j) :
    INV (md σ' ν' (put 20 (vw 20 μ) μ')) := by
  obtain ⟨M, eM⟩ : ∃ M, M = put 20 (vw 20 μ) μ' := ⟨_, rfl⟩
  rw [← eM] at hs ⊢
  have m1 : ∀ b j, b < 5000 → M b j = μ b j := fun b j q => by
    rw [eM]
    by_cases g : 20 ≤ b ∧ b < 41
    · have e : b = 20 + (b - 20) := by omega
      rw [e, put_r (by omega)]
      rfl
    · rw [put_o (by omega), he.1 b j q]
  have m2 : ∀ b j, 5000 ≤ b → M b j = μ' b j := fun b j q => by rw [eM, put_o (by omega)]
  refine inv_o h (fun b j q q1 q2 q3 => ?_) (fun j hj => by rw [md_n]; exact hν j hj) ⟨l, ⟨?_, fun j c hj => ?_⟩, ⟨?_, fun j c hj => ?_⟩, hl, hb⟩ ⟨?_, ?_, ?_⟩
  · unfold hng at q
    by_cases g9 : 276 ≤ b ∧ b < 289
    · have e : b = 276 + (b - 276) := by omega
      rw [e, md_r (by omega) (by omega), hs _ _ (by omega) (by omega), wr_n (by omega)]
      exact m1 _ _ (by omega)
    · rw [md_o (by omega), m1 _ _ q2]
  · rw [md_o (by decide), m2 _ _ (by decide)]
    exact hO.1
  · rw [md_o (by decide), m2 _ _ (by decide)]
    exact hO.2 j c hj
  · exact (md_r (r := 0) (by decide) (by decide)).trans hM.1
  · exact (md_r (r := 12) (by decide) (by decide)).trans (hM.2 j c hj)
  · rw [md_o (by decide), m2 _ _ (by decide)]
    exact he.2
  · rw [md_o (by decide), m2 _ _ (by decide)]
    exact hc
  · rw [md_o (by decide), md_o (by decide), m2 _ _ (by decide), m2 _ _ (by decide)]
    exact hf
theorem nml_b : ∀ (k : Nat) (x : Int), ∀ c ∈ nml k x, 0 ≤ c ∧ c < 128
  | 0, x, c, h => by cases h
  | k + 1, x, c, h => by
    rw [nml] at h
    split at h
    · cases h
    · rcases List.mem_append.mp h with g | g
      · exact nml_b k _ c g
      · rw [List.mem_singleton.mp g]
        omega
theorem dgl_b {v : Nat} (hv : v < 100) : ∀ c ∈ dgl v, 0 ≤ c ∧ c < 128 := by
  intro c h
  unfold dgl at h
  split at h
  · rw [List.mem_singleton.mp h]
    omega
  · simp only [List.mem_cons, List.not_mem_nil, or_false] at h
    rcases h with h | h <;> rw [h] <;> omega
theorem wSp_b {S : Mem} {m : Nat} {d : Int} {q : Nat} (hq : q < 100) : ∀ c ∈ wSp S m d q, 0 ≤ c ∧ c < 128 := by
  intro c h
  unfold wSp at h
  rcases List.mem_append.mp h with g | g
  · rcases List.mem_append.mp g with g | g
    · exact nml_b _ _ c g
    · rw [List.mem_singleton.mp g]
      split <;> decide
  · exact dgl_b hq c g
theorem wCh_b {S s : Mem} {h : Nat} (hC : wfC S s) (h5 : s 5 0 ≤ 16) (hh : h < 4) : ∀ c ∈ wCh S s h, 0 ≤ c ∧ c < 128 := by
  intro c hc
  unfold wCh at hc
  have f := hC.2.2.2.2.2 h hh
  split at hc
  · rw [List.mem_singleton.mp hc]
    decide
  · rename_i g
    rcases f with f | f
    · exact absurd f.1 g
    · rcases List.mem_append.mp hc with g | g
      · rcases List.mem_append.mp g with g | g
        · rcases List.mem_append.mp g with g | g
          · exact wSp_b (by omega) c g
          · split at g
            · rw [List.mem_singleton.mp g]
              decide
            · cases g
        · rw [List.mem_singleton.mp g]
          decide
      · exact dgl_b (by omega) c g
theorem wChs_b {S s : Mem} (hC : wfC S s) (h5 : s 5 0 ≤ 16) : ∀ n : Nat, n ≤ 4 → ∀ c ∈ wChs S s n, 0 ≤ c ∧ c < 128
  | 0, _, c, h => by cases h
  | n + 1, hn, c, h => by
    rw [wChs] at h
    rcases List.mem_append.mp h with g | g
    · rcases List.mem_append.mp g with g | g
      · exact wChs_b hC h5 n (by omega) c g
      · split at g
        · rw [List.mem_singleton.mp g]
          decide
        · cases g
    · exact wCh_b hC h5 (by omega) c g
theorem wRqs_b {S s : Mem} (hC : wfC S s) (h5 : s 5 0 ≤ 16) : ∀ n : Nat, (n : Int) ≤ s 11 0 → ∀ c ∈ wRqs S s n, 0 ≤ c ∧ c < 128
  | 0, _, c, h => by cases h
  | n + 1, hn, c, h => by
    rw [wRqs] at h
    rcases List.mem_append.mp h with g | g
    · rcases List.mem_append.mp g with g | g
      · exact wRqs_b hC h5 n (by omega) c g
      · split at g
        · rw [List.mem_singleton.mp g]
          decide
        · cases g
    · have f := hC.2.2.2.1 n (by omega)
      exact wSp_b (by omega) c g
theorem iB3 (h : INV μ) : μ 5003 0 = 0 ∧ (0 ≤ μ 5000 0 ∧ μ 5000 0 ≤ μ 5002 0) ∧ chn (μ 5002 0) := by
  obtain ⟨l, g1, g2, g3, g4⟩ := (inv_at h).2.2.2.2.2.2.1
  obtain ⟨b1, b2, b3⟩ := (inv_at h).2.2.2.2.2.2.2.1
  exact ⟨b1, ⟨by rw [g1.1]; omega, b3⟩, b2⟩
theorem eO_277 {μ' : Mem} (he : eqO μ' μ) : (put 20 (vw 20 μ) μ') 277 = μ 277 := funext (fun j => by rw [put_o (by decide), he.1 277 j (by decide)])
theorem D_writeChairs (h : INV μ) : Td mX10_writeChairs mX11_writeChairs [] μ := by
  obtain ⟨b1, b2, b3⟩ := iB3 h
  have pN := (inv_at h).2.1
  obtain ⟨n1, n12, c1, c4⟩ := wf_n (iS h)
  obtain ⟨-, q16, -, -⟩ := wf_r (iS h) (iC h)
  have hl := wChs_le (su μ) (vw 20 μ) (su μ 0 0).toNat
  refine to_d (by decide) (by decide) (by decide) (to_c (g_writeChairs (iS h) (iC h) (fun m hm => (pN m hm).1) b1 b2 b3 (fun μ' hO he hc hf => dok ?_)))
  refine to_m2 (by decide) (m_writeChairs (by rw [eO_277 he]; exact iR h) (iS h) (iC h) (fun m hm => (pN m hm).1) (fun m hm => (pN m hm).2) (fun σ' hM hs => ⟨by rw [iI_wp], ?_⟩))
  exact out_ok h hO he hc hf hM hs (by omega) (wChs_b (iC h) q16 _ (by omega)) (fun j _ => by rw [eO_277 he])
theorem D_writeRequests (h : INV μ) : Td mX10_writeRequests mX11_writeRequests [] μ := by
  obtain ⟨b1, b2, b3⟩ := iB3 h
  have pN := (inv_at h).2.1
  obtain ⟨-, q16, r0, r12⟩ := wf_r (iS h) (iC h)
  have hl := wRqs_le (su μ) (vw 20 μ) (vw 20 μ 11 0).toNat
  refine to_d (by decide) (by decide) (by decide) (to_c (g_writeRequests (iS h) (iC h) (fun m hm => (pN m hm).1) b1 b2 b3 (fun μ' hO he hc hf => dok ?_)))
  refine to_m2 (by decide) (m_writeRequests (by rw [eO_277 he]; exact iR h) (iS h) (iC h) (fun m hm => (pN m hm).1) (fun m hm => (pN m hm).2) (fun σ' hM hs => ⟨by rw [iI_wp], ?_⟩))
  exact out_ok h hO he hc hf hM hs (by omega) (wRqs_b (iC h) q16 _ (by omega)) (fun j _ => by rw [eO_277 he])
/-! forecasts -/
theorem fc_7 {τ' : Mem} {w : Int} : (wr (put 20 (vw 20 μ) (put 41 τ' μ)) 289 0 w) 277 = μ 277 := funext (fun j => by rw [wr_na (by decide), put_o (by decide), put_o (by decide)])
theorem fc_ok {τ' : Mem} {w b : Int} {ν' : Nat → Int} (h : INV μ) (hν : ∀ j, j < 418 → ν' j = (wr (put 20 (vw 20 μ) (put 41 τ' μ)) 289 0 w) 277 j) (hb : iI b = iI w) :
    Mq 0 w (some (.int (iI b))) (md (cpw (wr (vw 276 (wr (put 20 (vw 20 μ) (put 41 τ' μ)) 289 0 w)) 0 7 0) 2 0 ((wr (put 20 (vw 20 μ) (put 41 τ' μ)) 289 0 w) 277) 418) ν' (wr (put 20 (vw 20 μ) (put 41 τ' μ)) 289 0 w)) := by
  rw [fc_7] at hν
  obtain ⟨M, eM⟩ : ∃ M, M = wr (put 20 (vw 20 μ) (put 41 τ' μ)) 289 0 w := ⟨_, rfl⟩
  rw [← eM]
  have m1 : ∀ b j, (b < 41 ∨ 62 ≤ b) → b ≠ 289 → M b j = μ b j := fun b j q q2 => by
    rw [eM, wr_na q2]
    by_cases g : 20 ≤ b ∧ b < 41
    · have e : b = 20 + (b - 20) := by omega
      rw [e, put_r (by omega)]
      rfl
    · rw [put_o (by omega), put_o (by omega)]
  refine ⟨b, rfl, (md_r (r := 0) (by decide) (by decide)).trans ((cpw_o (Or.inl (by decide))).trans (wr_s _ _ _ _)), inv_sam2 h (fun j hj => by rw [md_n]; exact hν j hj) (fun b j q => ?_), fun _ => ⟨hb, by rw [md_o (by decide), eM, wr_s]⟩⟩
  unfold hng at q
  by_cases g9 : 276 ≤ b ∧ b < 289
  · have e : b = 276 + (b - 276) := by omega
    rw [e, md_r (by omega) (by omega), cpw_o (Or.inl (by omega)), wr_n (by omega)]
    exact m1 _ _ (by omega) (by omega)
  · rw [md_o (by omega), m1 _ _ (by omega) (by omega)]
theorem iRf {τ τ' : Mem} {w : Int} (h : INV μ) (hτ : eqC τ (vw 20 μ)) : rel (su μ) τ ((wr (put 20 (vw 20 μ) (put 41 τ' μ)) 289 0 w) 277) := by
  rw [fc_7]
  exact rel_eq (iS h) (iC h) (iR h) hτ
theorem T_latherAfter {a b : Int} (h : INV μ) (ha : rng a) (hb : rng b) : Tw anyI mL_latherAfter mX11_latherAfter [.int (iI a), .int (iI b)] μ := by
  refine to_w (d := 8) (by decide) (by decide) (by decide) (W_latherAfter (to_c (g_latherAfter ha hb (iS h) (iC h) (fun k n hk hn hl hl2 τ τ' hτ => ?_) (fun hn => Or.inl ⟨rfl, ?_⟩) (fun hq hn => Or.inr ⟨rfl, ?_⟩))))
  · have e5 : τ 5 0 = vw 20 μ 5 0 := hτ.1.1
    refine vok (to_m (by decide) (m_latherAfter ha hb (iRf h hτ) (iS h) (wf_eq (iS h) (iC h) hτ) (fun k' n' hk' hn' hl' hl2' ν' hν => ?_) (fun hn => absurd (show _ ∧ _ from ⟨by omega, by omega⟩) hn) (fun hq hn => absurd (show _ ∧ _ from ⟨by omega, by omega⟩) hn)))
    have e : k' = k := by omega
    have e2 : n' = n := by omega
    subst e e2
    exact fc_ok h hν (iI_wp _).symm
  · rw [pvw]
    exact tok (by decide) (to_m (by decide) (m_latherAfter ha hb (iR h) (iS h) (iC h) (fun k' n' hk' hn' hl' hl2' ν' hν => absurd (show _ ∧ _ from ⟨by omega, by omega⟩) hn) (fun _ => rdk h (by decide)) (fun hq _ => absurd hq hn)))
  · rw [pvw]
    exact tok (by decide) (to_m (by decide) (m_latherAfter ha hb (iR h) (iS h) (iC h) (fun k' n' hk' hn' hl' hl2' ν' hν => absurd (show _ ∧ _ from ⟨by omega, by omega⟩) hn) (fun hn2 => absurd hq hn2) (fun _ _ => rdk h (by decide))))
theorem T_minutesUntilVote {a : Int} (h : INV μ) (ha : rng a) : Tw anyI mL_minutesUntilVote mX11_minutesUntilVote [.int (iI a)] μ := by
  refine to_w (d := 8) (by decide) (by decide) (by decide) (W_minutesUntilVote (to_c (g_minutesUntilVote ha (iS h) (iC h) (fun k hk hl τ τ' hτ => ?_) (fun hn => ⟨rfl, ?_⟩))))
  · have e5 : τ 5 0 = vw 20 μ 5 0 := hτ.1.1
    refine vok (to_m (by decide) (m_minutesUntilVote ha (iRf h hτ) (iS h) (wf_eq (iS h) (iC h) hτ) (fun k' hk' hl' ν' hν => ?_) (fun hn => absurd (show _ ∧ _ from ⟨by omega, by omega⟩) hn)))
    have e : k' = k := by omega
    subst e
    exact fc_ok h hν (iI_wp _).symm
  · rw [pvw]
    exact tok (by decide) (to_m (by decide) (m_minutesUntilVote ha (iR h) (iS h) (iC h) (fun k' hk' hl' ν' hν => absurd (show _ ∧ _ from ⟨by omega, by omega⟩) hn) (fun _ => rdk h (by decide))))
theorem T_minutesUntilSpeech {a : Int} (h : INV μ) (ha : rng a) : Tw anyI mL_minutesUntilSpeech mX11_minutesUntilSpeech [.int (iI a)] μ := by
  obtain ⟨-, -, -, r12⟩ := wf_r (iS h) (iC h)
  refine to_w (d := 8) (by decide) (by decide) (by decide) (W_minutesUntilSpeech (to_c (g_minutesUntilSpeech ha (iS h) (iC h) (fun k hk hl hp => ?_) (fun k hk hl hp τ τ' hτ => ?_) (fun hn => ⟨rfl, ?_⟩))))
  · rw [pvw]
    refine vok (to_m (by decide) (m_minutesUntilSpeech ha (iR9 h) (iS h) (iC h) (fun k' hk' hl' _ => rd0 h (iI_wp _).symm) (fun k' hk' hl' hp' ν' hν => ?_) (fun hn => absurd (show _ ∧ _ from ⟨by omega, by omega⟩) hn)))
    have e : k' = k := by omega
    subst e
    exact absurd hp hp'
  · refine vok (to_m (by decide) (m_minutesUntilSpeech ha (iRf h hτ) (iS h) (wf_eq (iS h) (iC h) hτ) (fun k' hk' hl' hp' => ?_) (fun k' hk' hl' hp' ν' hν => ?_) (fun hn => absurd (show _ ∧ _ from ⟨by omega, by omega⟩) hn)))
    · have e : k' = k := by omega
      subst e
      rw [plc_eq hτ r12] at hp'
      exact absurd hp' hp
    · have e : k' = k := by omega
      subst e
      exact fc_ok h hν (iI_wp _).symm
  · rw [pvw]
    exact tok (by decide) (to_m (by decide) (m_minutesUntilSpeech ha (iR h) (iS h) (iC h) (fun k' hk' hl' _ => absurd (show _ ∧ _ from ⟨by omega, by omega⟩) hn) (fun k' hk' hl' _ ν' hν => absurd (show _ ∧ _ from ⟨by omega, by omega⟩) hn) (fun _ => rdk h (by decide))))
end Direct
/-! doubles -/
theorem dq_n1 : ∀ a : Fin 481, ∀ b : Fin 12, FP.dcmp (FP.ddiv (FP.i2d (iI ((a.val : Int) - 240))) (FP.i2d (iI ((b.val : Int) + 1)))) (FP.ddiv (FP.i2d (iI ((a.val : Int) - 240))) (FP.i2d (iI ((b.val : Int) + 1)))) = some .eq := by
  decide +kernel
theorem dq_n {x n : Int} (hx : -240 ≤ x ∧ x ≤ 240) (hn : 1 ≤ n ∧ n ≤ 12) : FP.dcmp (FP.ddiv (FP.i2d (iI x)) (FP.i2d (iI n))) (FP.ddiv (FP.i2d (iI x)) (FP.i2d (iI n))) = some .eq := by
  have h := dq_n1 ⟨(x + 240).toNat, by omega⟩ ⟨(n - 1).toNat, by omega⟩
  rw [show (((⟨(x + 240).toNat, by omega⟩ : Fin 481).val : Int)) - 240 = x by show (((x + 240).toNat : Nat) : Int) - 240 = x; omega, show (((⟨(n - 1).toNat, by omega⟩ : Fin 12).val : Int)) + 1 = n by show (((n - 1).toNat : Nat) : Int) + 1 = n; omega] at h
  exact h
theorem fq_n1 : ∀ a : Fin 10, ∀ b : Fin 108, FP.dcmp (FP.f2d (FP.fdiv (FP.i2f (iI (a.val : Int))) (FP.i2f (iI ((b.val : Int) + 1))))) (FP.f2d (FP.fdiv (FP.i2f (iI (a.val : Int))) (FP.i2f (iI ((b.val : Int) + 1))))) = some .eq := by
  decide +kernel
theorem fq_n {x n : Int} (hx : 0 ≤ x ∧ x ≤ 9) (hn : 1 ≤ n ∧ n ≤ 108) : FP.dcmp (FP.f2d (FP.fdiv (FP.i2f (iI x)) (FP.i2f (iI n)))) (FP.f2d (FP.fdiv (FP.i2f (iI x)) (FP.i2f (iI n)))) = some .eq := by
  have h := fq_n1 ⟨x.toNat, by omega⟩ ⟨(n - 1).toNat, by omega⟩
  rw [show (((⟨x.toNat, by omega⟩ : Fin 10).val : Int)) = x by show ((x.toNat : Nat) : Int) = x; omega, show (((⟨(n - 1).toNat, by omega⟩ : Fin 108).val : Int)) + 1 = n by show (((n - 1).toNat : Nat) : Int) + 1 = n; omega] at h
  exact h
def Mpd (y : MI) (as : List Value) (k : Int) (v : UInt64) (μ : Mem) : Prop := mt 289 16 0 0 y (.ref 276 :: as) (fun r μ2 => ∃ b : UInt64, r = some (.double b) ∧ μ2 276 7 = k ∧ INV μ2 ∧ (k = 0 → b = v ∧ dbl (μ2 290 0) (μ2 290 1) = v)) (fun _ _ => False) μ
def Mpf (y : MI) (as : List Value) (k : Int) (v : UInt64) (μ : Mem) : Prop := mt 289 16 0 0 y (.ref 276 :: as) (fun r μ2 => ∃ b : UInt32, r = some (.float b) ∧ μ2 276 7 = k ∧ INV μ2 ∧ (k = 0 → vf_n64 (FP.f2d b) ∧ FP.f2d b = v ∧ dbl (μ2 290 0) (μ2 290 1) = v)) (fun _ _ => False) μ
def Qwd (MP : Int → UInt64 → Mem → Prop) : Option Value → Mem → Prop := fun r μ1 => ∃ (k : Int) (v : UInt64), r = some (.int (iI k)) ∧ (0 ≤ k ∧ k ≤ 3) ∧ (k = 0 → FP.dcmp v v = some .eq) ∧ MP k v μ1
def Twd (yL : MI) (as : List Value) (MP : Int → UInt64 → Mem → Prop) (μ : Mem) : Prop := mt 291 17 3 246 yL (.ref 0 :: (as ++ [.ref 290])) (Qwd MP) (fun _ _ => False) μ
section Doubles
variable {μ : Mem}
theorem i290 {v : UInt64} (h : INV μ) : INV (wr (wr (wr μ 290 0 (dhi v)) 290 1 (dlo v)) 276 7 0) ∧ dbl (wr (wr (wr μ 290 0 (dhi v)) 290 1 (dlo v)) 276 7 0 290 0) (wr (wr (wr μ 290 0 (dhi v)) 290 1 (dlo v)) 276 7 0 290 1) = v := by
  refine ⟨inv_sam h (sam_t (sam_w (Or.inr (Or.inr (Or.inr ⟨rfl, Or.inl rfl⟩)))) (sam_t (sam_w (Or.inl ⟨by decide, by decide⟩)) (sam_w (Or.inl ⟨by decide, by decide⟩)))), ?_⟩
  have e1 : wr (wr (wr μ 290 0 (dhi v)) 290 1 (dlo v)) 276 7 0 290 0 = dhi v := (wr_na (by decide)).trans ((wr_ni (by decide)).trans (wr_s _ _ _ _))
  have e2 : wr (wr (wr μ 290 0 (dhi v)) 290 1 (dlo v)) 276 7 0 290 1 = dlo v := (wr_na (by decide)).trans (wr_s _ _ _ _)
  rw [e1, e2, dbl_v]
theorem w290 {v : UInt64} : (wr (wr μ 290 0 (dhi v)) 290 1 (dlo v)) 277 = μ 277 := by rw [w277 (by decide), w277 (by decide)]
theorem ik9 {k : Int} (h : INV μ) : INV (wr (wr μ 276 7 0) 276 7 k) := inv_sam h (sam_t (sam_w (Or.inr (Or.inr (Or.inr ⟨rfl, Or.inl rfl⟩)))) (sam_w (Or.inr (Or.inr (Or.inr ⟨rfl, Or.inl rfl⟩)))))
theorem T_meanLeaning {a : Int} (h : INV μ) (ha : rng a) : Twd mL_meanLeaning [.int (iI a)] (Mpd mX11_meanLeaning [.int (iI a)]) μ := by
  refine mt_up (d := 8) (W_meanLeaning (to_c (g_meanLeaning ha (iS h) (iC h) (fun k hk hl => ⟨mnl (su μ) (vw 20 μ) k, rfl, ?_⟩) (fun hn => ⟨rfl, ?_⟩)))) (Nat.le_refl _) (by decide) (by decide) (by decide)
  · rw [pvw]
    refine ⟨0, mnl (su μ) (vw 20 μ) k, rfl, by decide, fun _ => ?_, ?_⟩
    · obtain ⟨n1, n12, c1, c4⟩ := wf_n (iS h)
      refine dq_n ?_ ⟨n1, n12⟩
      have h := smf_ab (f := fun m => ln (vw 20 μ) m k) (b := 20) (n := (su μ 0 7).toNat) (fun i hi => ((iC h).2.2.1 k hl).2.2.2.2.2.2.2.2 i (by omega))
      have e : (((su μ 0 7).toNat : Nat) : Int) ≤ 12 := by omega
      omega
    · obtain ⟨M, eM⟩ : ∃ M, M = wr (wr μ 290 0 (dhi (mnl (su μ) (vw 20 μ) k))) 290 1 (dlo (mnl (su μ) (vw 20 μ) k)) := ⟨_, rfl⟩
      have hi := i290 (v := mnl (su μ) (vw 20 μ) k) h
      have e7 := w290 (μ := μ) (v := mnl (su μ) (vw 20 μ) k)
      rw [← eM] at hi e7 ⊢
      refine mt_up (d := 4) (mt_mem (md_v M).symm (m_meanLeaning ha (by rw [e7]; exact iR h) (iS h) (iC h) (fun k' hk' hl' => ?_) (fun hn => absurd (show _ ∧ _ from ⟨by omega, by omega⟩) hn))) (Nat.le_refl _) (by decide) (Nat.le_refl _) (Nat.le_refl _)
      have e : k' = k := by omega
      subst e
      rw [md_f1]
      exact ⟨_, rfl, wr_s _ _ _ _, hi.1, fun _ => ⟨rfl, hi.2⟩⟩
  · rw [pvw]
    refine ⟨1, 0, rfl, by decide, fun e => absurd e (by decide), ?_⟩
    refine mt_up (d := 4) (mt_mem (md_v μ).symm (m_meanLeaning ha (iR h) (iS h) (iC h) (fun k' hk' hl' => absurd (show _ ∧ _ from ⟨by omega, by omega⟩) hn) (fun _ => ?_))) (Nat.le_refl _) (by decide) (Nat.le_refl _) (Nat.le_refl _)
    rw [md_f2]
    exact ⟨_, rfl, wr_s _ _ _ _, ik9 h, fun e => absurd e (by decide)⟩
theorem T_weightShare {a : Int} (h : INV μ) (ha : rng a) : Twd mL_weightShare [.int (iI a)] (Mpf mX11_weightShare [.int (iI a)]) μ := by
  refine mt_up (d := 8) (W_weightShare (to_c (g_weightShare ha (iS h) (iC h) (fun k hk hl => ⟨wsh (su μ) k, rfl, (wsh_b (iS h) hl).2.1, ?_⟩) (fun hn => ⟨rfl, ?_⟩)))) (Nat.le_refl _) (by decide) (by decide) (by decide)
  · rw [pvw]
    refine ⟨0, FP.f2d (wsh (su μ) k), rfl, by decide, fun _ => ?_, ?_⟩
    · obtain ⟨n1, n12, c1, c4⟩ := wf_n (iS h)
      have hw := wf_m (iS h)
      have g := smf_bd (f := fun m => su μ 2 m) (b := 9) (n := (su μ 0 7).toNat) (fun i hi => by have := hw i (by omega); omega)
      exact fq_n (by have := hw k hl; omega) ⟨(wsh_b (iS h) hl).2.2, by omega⟩
    · obtain ⟨M, eM⟩ : ∃ M, M = wr (wr μ 290 0 (dhi (FP.f2d (wsh (su μ) k)))) 290 1 (dlo (FP.f2d (wsh (su μ) k))) := ⟨_, rfl⟩
      have hi := i290 (v := FP.f2d (wsh (su μ) k)) h
      have e7 := w290 (μ := μ) (v := FP.f2d (wsh (su μ) k))
      rw [← eM] at hi e7 ⊢
      refine mt_up (d := 4) (mt_mem (md_v M).symm (m_weightShare ha (by rw [e7]; exact iR h) (iS h) (iC h) (fun k' hk' hl' => ?_) (fun hn => absurd (show _ ∧ _ from ⟨by omega, by omega⟩) hn))) (Nat.le_refl _) (by decide) (Nat.le_refl _) (Nat.le_refl _)
      have e : k' = k := by omega
      subst e
      rw [md_f1]
      exact ⟨_, rfl, wr_s _ _ _ _, hi.1, fun _ => ⟨(wsh_b (iS h) hl).2.1, rfl, hi.2⟩⟩
  · rw [pvw]
    refine ⟨1, 0, rfl, by decide, fun e => absurd e (by decide), ?_⟩
    refine mt_up (d := 4) (mt_mem (md_v μ).symm (m_weightShare ha (iR h) (iS h) (iC h) (fun k' hk' hl' => absurd (show _ ∧ _ from ⟨by omega, by omega⟩) hn) (fun _ => ?_))) (Nat.le_refl _) (by decide) (Nat.le_refl _) (Nat.le_refl _)
    rw [md_f2]
    exact ⟨_, rfl, wr_s _ _ _ _, ik9 h, fun e => absurd e (by decide)⟩
end Doubles
