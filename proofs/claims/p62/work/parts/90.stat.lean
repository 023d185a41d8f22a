/-! STATISTICS: mean leanings, shares of the weight; a byte of the model's output -/
theorem dd_n1 : ∀ a : Fin 481, ∀ b : Fin 12, vf_n64 (FP.ddiv (FP.i2d (iI ((a.val : Int) - 240))) (FP.i2d (iI ((b.val : Int) + 1)))) := by
  unfold vf_n64
  decide +kernel
theorem dd_n {x n : Int} (hx : -240 ≤ x ∧ x ≤ 240) (hn : 1 ≤ n ∧ n ≤ 12) : vf_n64 (FP.ddiv (FP.i2d (iI x)) (FP.i2d (iI n))) := by
  have h := dd_n1 ⟨(x + 240).toNat, by omega⟩ ⟨(n - 1).toNat, by omega⟩
  rw [show (((⟨(x + 240).toNat, by omega⟩ : Fin 481).val : Int)) - 240 = x by show (((x + 240).toNat : Nat) : Int) - 240 = x; omega, show (((⟨(n - 1).toNat, by omega⟩ : Fin 12).val : Int)) + 1 = n by show (((n - 1).toNat : Nat) : Int) + 1 = n; omega] at h
  exact h
theorem ff_n1 : ∀ a : Fin 10, ∀ b : Fin 108, vf_n32 (FP.fdiv (FP.i2f (iI (a.val : Int))) (FP.i2f (iI ((b.val : Int) + 1)))) ∧ vf_n64 (FP.f2d (FP.fdiv (FP.i2f (iI (a.val : Int))) (FP.i2f (iI ((b.val : Int) + 1))))) := by
  unfold vf_n32 vf_n64
  decide +kernel
theorem ff_n {x n : Int} (hx : 0 ≤ x ∧ x ≤ 9) (hn : 1 ≤ n ∧ n ≤ 108) : vf_n32 (FP.fdiv (FP.i2f (iI x)) (FP.i2f (iI n))) ∧ vf_n64 (FP.f2d (FP.fdiv (FP.i2f (iI x)) (FP.i2f (iI n)))) := by
  have h := ff_n1 ⟨x.toNat, by omega⟩ ⟨(n - 1).toNat, by omega⟩
  rw [show (((⟨x.toNat, by omega⟩ : Fin 10).val : Int)) = x by show ((x.toNat : Nat) : Int) = x; omega, show (((⟨(n - 1).toNat, by omega⟩ : Fin 108).val : Int)) + 1 = n by show (((n - 1).toNat : Nat) : Int) + 1 = n; omega] at h
  exact h
theorem smf_ab {f : Nat → Int} {b : Int} : ∀ {n : Nat}, (∀ k, k < n → -b ≤ f k ∧ f k ≤ b) → -(n * b) ≤ smf f n ∧ smf f n ≤ n * b
  | 0, _ => by simp [smf]
  | n + 1, h => by
    have h1 := smf_ab (n := n) (fun k hk => h k (by omega))
    have h2 := h n (by omega)
    have e : ((n + 1 : Nat) : Int) * b = n * b + b := by
      rw [Int.natCast_succ, Int.add_mul, Int.one_mul]
    rw [smf, e]
    omega
section FRules
variable {z d kc ks : Nat} {y : MI} {Q : Option Value → Mem → Prop} {X : String → Mem → Prop} {pc : Nat} {ls st : List Value} {μ : Mem}
theorem go_i2d {a : Int32} (hd : decode y.2.1 pc = .ok (.i2d, 1)) (K : go z d kc ks y Q X (pc + 1) ls (.double (FP.i2d a) :: st) μ) : go z d kc ks y Q X pc ls (.int a :: st) μ := by
  intro p l e R s m args below meth c D cy X0 mc ms nn ad hc H locs cells slots lsA dv hw hS hl h1 h2
  exact lv_i2d hc.1 hc.2.1 hd (go_use K hc hw hS hl h1 h2)
theorem go_i2f {a : Int32} (hd : decode y.2.1 pc = .ok (.i2f, 1)) (K : go z d kc ks y Q X (pc + 1) ls (.float (FP.i2f a) :: st) μ) : go z d kc ks y Q X pc ls (.int a :: st) μ := by
  intro p l e R s m args below meth c D cy X0 mc ms nn ad hc H locs cells slots lsA dv hw hS hl h1 h2
  exact lv_i2f hc.1 hc.2.1 hd (go_use K hc hw hS hl h1 h2)
theorem go_ddiv {a b : UInt64} (hd : decode y.2.1 pc = .ok (.ddiv, 1)) (hn : vf_n64 (FP.ddiv a b)) (K : go z d kc ks y Q X (pc + 1) ls (.double (FP.ddiv a b) :: st) μ) : go z d kc ks y Q X pc ls (.double b :: .double a :: st) μ := by
  intro p l e R s m args below meth c D cy X0 mc ms nn ad hc H locs cells slots lsA dv hw hS hl h1 h2
  exact lv_ddiv hc.1 hc.2.1 hd hn (go_use K hc hw hS hl h1 h2)
theorem go_fdiv {a b : UInt32} (hd : decode y.2.1 pc = .ok (.fdiv, 1)) (hn : vf_n32 (FP.fdiv a b)) (K : go z d kc ks y Q X (pc + 1) ls (.float (FP.fdiv a b) :: st) μ) : go z d kc ks y Q X pc ls (.float b :: .float a :: st) μ := by
  intro p l e R s m args below meth c D cy X0 mc ms nn ad hc H locs cells slots lsA dv hw hS hl h1 h2
  exact lv_fdiv hc.1 hc.2.1 hd hn (go_use K hc hw hS hl h1 h2)
theorem go_dconst (hd : decode y.2.1 pc = .ok (.dconst 0, 1)) (K : go z d kc ks y Q X (pc + 1) ls (.double FP.dconst0 :: st) μ) : go z d kc ks y Q X pc ls st μ := by
  intro p l e R s m args below meth c D cy X0 mc ms nn ad hc H locs cells slots lsA dv hw hS hl h1 h2
  exact lv_dconst0 hc.1 hc.2.1 hd (go_use K hc hw hS hl h1 h2)
theorem go_fconst (hd : decode y.2.1 pc = .ok (.fconst 0, 1)) (K : go z d kc ks y Q X (pc + 1) ls (.float FP.fconst0 :: st) μ) : go z d kc ks y Q X pc ls st μ := by
  intro p l e R s m args below meth c D cy X0 mc ms nn ad hc H locs cells slots lsA dv hw hS hl h1 h2
  exact lv_fconst0 hc.1 hc.2.1 hd (go_use K hc hw hS hl h1 h2)
theorem go_dreturn {v : UInt64} (hd : decode y.2.1 pc = .ok (.dreturn, 1)) (hr : y.2.2.2.1 = some .double) (K : Q (some (.double v)) μ) : go z d kc ks y Q X pc ls [.double v] μ := by
  intro p l e R s m args below meth c D cy X0 mc ms nn ad hc H locs cells slots lsA dv hw hS hl h1 h2
  obtain ⟨c1, c2, c3, c4, c5, c6, c7, c8, c9, c10, c11⟩ := hc
  refine W.widen (k := mc) (n := ms) (by omega) (by omega) (vx_ret ?_)
  exact W.dret c1 c2 (c3.trans hr) (fun t ht hW => ⟨⟨some (.double v), μ, dv, rfl, K, by rw [ht]; exact hw⟩, hS.F ht⟩) hS.2.2 hd c7
theorem go_freturn {v : UInt32} (hd : decode y.2.1 pc = .ok (.freturn, 1)) (hr : y.2.2.2.1 = some .float) (K : Q (some (.float v)) μ) : go z d kc ks y Q X pc ls [.float v] μ := by
  intro p l e R s m args below meth c D cy X0 mc ms nn ad hc H locs cells slots lsA dv hw hS hl h1 h2
  obtain ⟨c1, c2, c3, c4, c5, c6, c7, c8, c9, c10, c11⟩ := hc
  refine W.widen (k := mc) (n := ms) (by omega) (by omega) (vx_ret ?_)
  exact W.fret c1 c2 (c3.trans hr) (fun t ht hW => ⟨⟨some (.float v), μ, dv, rfl, K, by rw [ht]; exact hw⟩, hS.F ht⟩) hS.2.2 hd c7
end FRules
/-- the mean of the leanings to a motion, a member's share of all weight -/
def mnl (S s : Mem) (q : Nat) : UInt64 := FP.ddiv (FP.i2d (iI (smf (fun m => ln s m q) (S 0 7).toNat))) (FP.i2d (iI (S 0 7)))
def wsh (S : Mem) (m : Nat) : UInt32 := FP.fdiv (FP.i2f (iI (S 2 m))) (FP.i2f (iI (smf (fun m => S 2 m) (S 0 7).toNat)))
theorem mnl_b {S s : Mem} {q : Nat} (hS : wfS S) (hC : wfC S s) (hq : (q : Int) < s 5 0) : vf_n64 (mnl S s q) := by
  obtain ⟨n1, n12, c1, c4⟩ := wf_n hS
  refine dd_n ?_ ⟨n1, n12⟩
  have h := smf_ab (f := fun m => ln s m q) (b := 20) (n := (S 0 7).toNat) (fun k hk => (hC.2.2.1 q hq).2.2.2.2.2.2.2.2 k (by omega))
  have e : (((S 0 7).toNat : Nat) : Int) ≤ 12 := by omega
  omega
theorem wsh_b {S : Mem} {m : Nat} (hS : wfS S) (hm : (m : Int) < S 0 7) : vf_n32 (wsh S m) ∧ vf_n64 (FP.f2d (wsh S m)) ∧ 1 ≤ smf (fun m => S 2 m) (S 0 7).toNat := by
  obtain ⟨n1, n12, c1, c4⟩ := wf_n hS
  have hw := wf_m hS
  have h := smf_bd (f := fun m => S 2 m) (b := 9) (n := (S 0 7).toNat) (fun k hk => by have := hw k (by omega); omega)
  have h1 : 1 ≤ smf (fun m => S 2 m) (S 0 7).toNat := by
    obtain ⟨j, ej⟩ : ∃ j, (S 0 7).toNat = j + 1 := ⟨(S 0 7).toNat - 1, by omega⟩
    rw [ej, smf]
    have g := smf_bd (f := fun m => S 2 m) (b := 9) (n := j) (fun k hk => by have := hw k (by omega); omega)
    have g2 := hw j (by omega)
    show 1 ≤ smf (fun m => S 2 m) j + S 2 j
    omega
  have g := ff_n (x := S 2 m) (n := smf (fun m => S 2 m) (S 0 7).toNat) (by have := hw m hm; omega) ⟨h1, by omega⟩
  exact ⟨g.1, g.2, h1⟩
section Stat
variable {S s σ μ : Mem} {ν : Nat → Int}
set_option maxRecDepth 8000 in
set_option maxHeartbeats 4000000 in
theorem g_meanLeaning {m : Int} (hm : rng m) (hS : wfS (su μ)) (hC : wfC (su μ) σ) {Q : Option Value → Mem → Prop} {X : String → Mem → Prop} (K : ∀ k : Nat, m = k → (k : Int) < σ 5 0 → Q (some (.double (mnl (su μ) σ k))) (put 20 σ μ)) (K2 : ¬ (0 ≤ m ∧ m < σ 5 0) → X "java/lang/IndexOutOfBoundsException" (put 20 σ μ)) : mt 276 7 1 6 mX10_meanLeaning [.ref 0, .int (iI m)] Q X (put 20 σ μ) := by
  show go 276 7 1 6 mX10_meanLeaning Q X 0 [.ref 0, .int (iI m), .null, .null] [] _
  obtain ⟨n1, n12, c1, c4⟩ := wf_n hS
  obtain ⟨q0, q16, r0, r12⟩ := wf_r hS hC
  by_cases g : 0 ≤ m ∧ m < σ 5 0
  · obtain ⟨q, rfl⟩ := Int.eq_ofNat_of_zero_le g.1
    have g2 := g.2
    have loop : ∀ (n k : Nat), (k : Int) + n = su μ 0 7 → go 276 7 0 0 mX10_meanLeaning Q X 9 [.ref 0, .int (iI (q : Nat)), .int (iI (smf (fun m => ln σ m q) k)), .int (iI (k : Nat))] [] (put 20 σ μ) := by
      intro n
      induction n using Nat.strongRecOn with
      | _ n ih =>
        intro k hk
        refine go_iload_n (y := mX10_meanLeaning) (pc := 9) dX10_meanLeaning_9 rfl rfl ?_
        refine go_aload_n (y := mX10_meanLeaning) (pc := 10) dX10_meanLeaning_10 rfl rfl ?_
        refine go_getR (y := mX10_meanLeaning) (pc := 11) dX10_meanLeaning_11 fl_X10_35 rfl rfl (by decide) ?_
        refine go_sget (y := mX10_meanLeaning) (pc := 14) (r := 0) dX10_meanLeaning_14 fl_X10_156 h20 (by decide) rfl rfl (by decide) (fun r14 => ?_)
        refine go_top (b := su μ 0 7) (rfl) (fun t14 => ?_)
        refine go_icmp_ge (y := mX10_meanLeaning) (pc := 17) (tgt := 41) dX10_meanLeaning_17 (by decide) (by omega) (by omega) (fun h17 => ?_) (fun h17 => ?_)
        · skip
          refine go_iload_n (y := mX10_meanLeaning) (pc := 41) dX10_meanLeaning_41 rfl rfl ?_
          refine go_i2d (y := mX10_meanLeaning) (pc := 42) dX10_meanLeaning_42 ?_
          refine go_iconst (y := mX10_meanLeaning) (pc := 43) dX10_meanLeaning_43 ?_
          refine go_aload_n (y := mX10_meanLeaning) (pc := 44) dX10_meanLeaning_44 rfl rfl ?_
          refine go_getR (y := mX10_meanLeaning) (pc := 45) dX10_meanLeaning_45 fl_X10_35 rfl rfl (by decide) ?_
          refine go_sget (y := mX10_meanLeaning) (pc := 48) (r := 0) dX10_meanLeaning_48 fl_X10_156 h20 (by decide) rfl rfl (by decide) (fun r48 => ?_)
          refine go_top (b := su μ 0 7) (rfl) (fun t48 => ?_)
          refine go_mmax (y := mX10_meanLeaning) (pc := 51) dX10_meanLeaning_51 ml_X10_301 (by decide) (Nat.le_of_ble_eq_true rfl) ⟨by omega, by omega⟩ ⟨by omega, by omega⟩ ?_
          refine go_top (b := su μ 0 7) ((by omega)) (fun t51 => ?_)
          refine go_i2d (y := mX10_meanLeaning) (pc := 54) dX10_meanLeaning_54 ?_
          refine go_ddiv (y := mX10_meanLeaning) (pc := 55) dX10_meanLeaning_55 (by rw [show k = (su μ 0 7).toNat by omega]; exact mnl_b hS hC g2) ?_
          refine go_dreturn (y := mX10_meanLeaning) (pc := 56) dX10_meanLeaning_56 rfl ?_
          obtain rfl : k = (su μ 0 7).toNat := by omega
          exact K q rfl g2
        · skip
          refine go_iload_n (y := mX10_meanLeaning) (pc := 20) dX10_meanLeaning_20 rfl rfl ?_
          refine go_aload_n (y := mX10_meanLeaning) (pc := 21) dX10_meanLeaning_21 rfl rfl ?_
          refine go_getR (y := mX10_meanLeaning) (pc := 22) dX10_meanLeaning_22 fl_X10_47 rfl rfl (by decide) ?_
          refine go_getR (y := mX10_meanLeaning) (pc := 25) dX10_meanLeaning_25 fl_X10_191 (ch_sh h20 0 (by decide)) rfl (ch_z (r := 0) h20 (by decide)) ?_
          refine go_iload_n (y := mX10_meanLeaning) (pc := 28) dX10_meanLeaning_28 rfl rfl ?_
          refine go_iload_n (y := mX10_meanLeaning) (pc := 29) dX10_meanLeaning_29 rfl rfl ?_
          refine go_callV2 (y := mX10_meanLeaning) (pc := 30) (y' := mX4_leaningOf) (kc2 := 0) (ks2 := 0) dX10_meanLeaning_30 ml_X10_195 ok_X4_leaningOf (ch_sh h20 5 (by decide)) ⟨_, _, rfl⟩ (ch_z (r := 5) h20 (by decide)) ⟨rfl, rfl⟩ (by decide) (Nat.le_of_ble_eq_true rfl) rfl (c_leaningOf h20 (m := k) (q := q) (by omega) (by omega) (fun r30 => ?_))
          refine go_iadd (y := mX10_meanLeaning) (pc := 33) dX10_meanLeaning_33 ?_
          refine go_top (b := smf (fun m => ln σ m q) (k + 1)) (rfl) (fun t33 => ?_)
          refine go_istore_n (y := mX10_meanLeaning) (pc := 34) dX10_meanLeaning_34 rfl (by decide) ?_
          refine go_iinc (y := mX10_meanLeaning) (pc := 35) dX10_meanLeaning_35 rfl (by decide) ?_
          refine go_goto (y := mX10_meanLeaning) (pc := 38) (tgt := 9) dX10_meanLeaning_38 (by decide) ?_
          exact ih (n - 1) (by omega) (k + 1) (by omega)
    refine go_aload_n (y := mX10_meanLeaning) (pc := 0) dX10_meanLeaning_0 rfl rfl ?_
    refine go_iload_n (y := mX10_meanLeaning) (pc := 1) dX10_meanLeaning_1 rfl rfl ?_
    refine go_callV1 (y := mX10_meanLeaning) (pc := 2) (y' := mX10_requireMotion) (kc2 := 0) (ks2 := 0) dX10_meanLeaning_2 ml_X10_188 ok_X10_requireMotion (show shp 0 = _ from rfl) ⟨_, _, rfl⟩ (by decide) rfl (by decide) (Nat.le_of_ble_eq_true rfl) rfl (g_requireMotion (by omega) (fun _ => ?_) (fun h9 => absurd g h9))
    refine go_iconst (y := mX10_meanLeaning) (pc := 5) dX10_meanLeaning_5 ?_
    refine go_istore_n (y := mX10_meanLeaning) (pc := 6) dX10_meanLeaning_6 rfl (by decide) ?_
    refine go_iconst (y := mX10_meanLeaning) (pc := 7) dX10_meanLeaning_7 ?_
    refine go_istore_n (y := mX10_meanLeaning) (pc := 8) dX10_meanLeaning_8 rfl (by decide) ?_
    exact loop (su μ 0 7).toNat 0 (by omega)
  · skip
    refine go_aload_n (y := mX10_meanLeaning) (pc := 0) dX10_meanLeaning_0 rfl rfl ?_
    refine go_iload_n (y := mX10_meanLeaning) (pc := 1) dX10_meanLeaning_1 rfl rfl ?_
    refine go_callV1 (y := mX10_meanLeaning) (pc := 2) (y' := mX10_requireMotion) (kc2 := 0) (ks2 := 0) dX10_meanLeaning_2 ml_X10_188 ok_X10_requireMotion (show shp 0 = _ from rfl) ⟨_, _, rfl⟩ (by decide) rfl (by decide) (Nat.le_of_ble_eq_true rfl) rfl (g_requireMotion (by omega) (fun h9 => absurd h9 g) (fun _ => K2 g))
set_option maxRecDepth 8000 in
set_option maxHeartbeats 4000000 in
theorem g_weightShare {m : Int} (hm : rng m) (hS : wfS (su μ)) (hC : wfC (su μ) σ) {Q : Option Value → Mem → Prop} {X : String → Mem → Prop} (K : ∀ k : Nat, m = k → (k : Int) < su μ 0 7 → Q (some (.float (wsh (su μ) k))) (put 20 σ μ)) (K2 : ¬ (0 ≤ m ∧ m < su μ 0 7) → X "java/lang/IndexOutOfBoundsException" (put 20 σ μ)) : mt 276 7 1 6 mX10_weightShare [.ref 0, .int (iI m)] Q X (put 20 σ μ) := by
  show go 276 7 1 6 mX10_weightShare Q X 0 [.ref 0, .int (iI m)] [] _
  obtain ⟨n1, n12, c1, c4⟩ := wf_n hS
  by_cases g : 0 ≤ m ∧ m < su μ 0 7
  · obtain ⟨k, rfl⟩ := Int.eq_ofNat_of_zero_le g.1
    have g2 := g.2
    obtain ⟨b1, b2, b3⟩ := wsh_b hS g2
    have b4 := smf_bd (f := fun m => su μ 2 m) (b := 9) (n := (su μ 0 7).toNat) (fun k hk => by have := wf_m hS k (by omega); omega)
    refine go_aload_n (y := mX10_weightShare) (pc := 0) dX10_weightShare_0 rfl rfl ?_
    refine go_iload_n (y := mX10_weightShare) (pc := 1) dX10_weightShare_1 rfl rfl ?_
    refine go_callV1 (y := mX10_weightShare) (pc := 2) (y' := mX10_requireMember) (kc2 := 0) (ks2 := 0) dX10_weightShare_2 ml_X10_166 ok_X10_requireMember (show shp 0 = _ from rfl) ⟨_, _, rfl⟩ (by decide) rfl (by decide) (Nat.le_of_ble_eq_true rfl) rfl (g_requireMember (by omega) (fun _ => ?_) (fun h9 => absurd g h9))
    refine go_aload_n (y := mX10_weightShare) (pc := 5) dX10_weightShare_5 rfl rfl ?_
    refine go_getR (y := mX10_weightShare) (pc := 6) dX10_weightShare_6 fl_X10_35 rfl rfl (by decide) ?_
    refine go_getR (y := mX10_weightShare) (pc := 9) dX10_weightShare_9 fl_X10_169 rfl rfl (by decide) ?_
    refine go_iload_n (y := mX10_weightShare) (pc := 12) dX10_weightShare_12 rfl rfl ?_
    refine go_sial (y := mX10_weightShare) (pc := 13) (r := 2) (k := k) dX10_weightShare_13 h20 (by decide) rfl (by decide) rfl (by omega) (by decide) (fun r13 => ?_)
    refine go_top (b := su μ 2 k) (rfl) (fun t13 => ?_)
    refine go_i2f (y := mX10_weightShare) (pc := 14) dX10_weightShare_14 ?_
    refine go_iconst (y := mX10_weightShare) (pc := 15) dX10_weightShare_15 ?_
    refine go_aload_n (y := mX10_weightShare) (pc := 16) dX10_weightShare_16 rfl rfl ?_
    refine go_getR (y := mX10_weightShare) (pc := 17) dX10_weightShare_17 fl_X10_35 rfl rfl (by decide) ?_
    refine go_callV0 (y := mX10_weightShare) (pc := 20) (y' := mX7_totalWeight) (kc2 := 0) (ks2 := 0) dX10_weightShare_20 ml_X10_306 ok_X7_totalWeight (show shp 10 = _ from rfl) ⟨_, _, rfl⟩ (by decide) trivial (by decide) (Nat.le_of_ble_eq_true rfl) rfl (s_totalWeight h20 (by omega) (by omega) ?_)
    refine go_mmax (y := mX10_weightShare) (pc := 23) dX10_weightShare_23 ml_X10_301 (by decide) (Nat.le_of_ble_eq_true rfl) ⟨by omega, by omega⟩ ⟨by omega, by omega⟩ ?_
    refine go_top (b := smf (fun m => su μ 2 m) (su μ 0 7).toNat) ((by omega)) (fun t23 => ?_)
    refine go_i2f (y := mX10_weightShare) (pc := 26) dX10_weightShare_26 ?_
    refine go_fdiv (y := mX10_weightShare) (pc := 27) dX10_weightShare_27 b1 ?_
    refine go_freturn (y := mX10_weightShare) (pc := 28) dX10_weightShare_28 rfl ?_
    exact K k rfl g2
  · skip
    refine go_aload_n (y := mX10_weightShare) (pc := 0) dX10_weightShare_0 rfl rfl ?_
    refine go_iload_n (y := mX10_weightShare) (pc := 1) dX10_weightShare_1 rfl rfl ?_
    refine go_callV1 (y := mX10_weightShare) (pc := 2) (y' := mX10_requireMember) (kc2 := 0) (ks2 := 0) dX10_weightShare_2 ml_X10_166 ok_X10_requireMember (show shp 0 = _ from rfl) ⟨_, _, rfl⟩ (by decide) rfl (by decide) (Nat.le_of_ble_eq_true rfl) rfl (g_requireMember (by omega) (fun h9 => absurd h9 g) (fun _ => K2 g))
end Stat
