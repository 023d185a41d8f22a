/-! CONSTRUCTORS of a chamber and of the history -/
def chH (ad : Nat → Nat) (c q : Nat) : Nat × va_E := (ad c, .inr (5, [.ref (ad q), .ref (ad (c + 1)), .ref (ad (c + 5)), .ref (ad (c + 11)), .ref (ad (c + 15)), .int (iI 0), .int (iI 0), .int (iI 0), .int (iI 0), .int (iI 0), .int (iI 0)]))
def chT (cy : Nat → ClassId) (ad : Nat → Nat) (c : Nat) : va_W := clX3 cy ad (c + 1) ++ clX4 cy ad (c + 5) ++ clX5 cy ad (c + 11) ++ clX0 cy ad (c + 15)
abbrev chC (cy : Nat → ClassId) (ad : Nat → Nat) (c q : Nat) : va_W := chH ad c q :: chT cy ad c
theorem had_in {ad : Nat → Nat} {b h n : Nat} (had : ∀ i, i < n → ad (b + 1 + i) = h + i) (o r : Nat) (ho : o + r < n) : ∀ i, i < r → ad (b + 1 + o + 1 + i) = h + o + 1 + i := fun i hi => by
  rw [show b + 1 + o + 1 + i = b + 1 + (o + 1 + i) by omega, had (o + 1 + i) (by omega)]; omega
theorem K_X1 {D : va_G} {cy : Nat → ClassId} {X0 : Nat → Prop} {ad : Nat → Nat} {V ws wf : va_W} {b q h : Nat} (hw : ws = V ++ [(ad b, .inr (5, [.null, .null, .null, .null, .null, .int (iI 0), .int (iI 0), .int (iI 0), .int (iI 0), .int (iI 0), .int (iI 0)]))]) (hf : V ++ chC cy ad b q = wf) (had : ∀ i, i < 20 → ad (b + 1 + i) = h + i) :
    gc D cy X0 ad 2 20 366 mX1_init (gcQ D X0 (fun w h' => w = wf ∧ h' = h + 20)) noX 0 [.ref b, .ref q] [] ws h := by
  subst hw
  refine gc_aload_n dX1_init_0 rfl rfl ?_
  refine gc_obj dX1_init_1 (tb_in 174 (by decide +kernel) (by decide +kernel)) (by decide) (by decide) ?_
  refine gc_aload_n dX1_init_4 rfl rfl ?_
  refine gc_new (N := 3) (ci := 7) (k := b + 1) (W0 := V) (L := (ad b, .inr (5, [.null, .null, .null, .null, .null, .int (iI 0), .int (iI 0), .int (iI 0), .int (iI 0), .int (iI 0), .int (iI 0)])) :: []) (kc := 19) (ks := 363) (fs := [.null, .null, .null]) dX1_init_5 (tb_in 175 (by decide +kernel) (by decide +kernel)) (tb_in 176 (by decide +kernel) (by decide +kernel)) (tb_in 7 (by decide +kernel) (by decide +kernel)) iaX3 tyX3 tyX3_ok rfl (by decide) (had 0 (by decide)) ?_
  refine gc_dup dX1_init_8 rfl ?_
  refine gc_call (d' := 1) (kc' := 3) (ks' := 36) (kc2 := 16) (ks2 := 327) (y' := mX3_init) (b := b + 1) (as := []) (rest := [.ref (b + 1), .ref b]) (n := 0) (fun w h' => w = V ++ (((ad b, .inr (5, [.null, .null, .null, .null, .null, .int (iI 0), .int (iI 0), .int (iI 0), .int (iI 0), .int (iI 0), .int (iI 0)])) :: []) ++ clX3 cy ad (b + 1)) ∧ h' = h + 4) dX1_init_9 rfl (Or.inr (fw_in 177 (by decide +kernel) (by decide +kernel))) ok_X3_init ⟨rfl, rfl⟩ rfl (by decide) (by simp) (Nat.le_of_ble_eq_true rfl) (by decide) ?_ ?_
  · exact K_X3 (V := V ++ ((ad b, .inr (5, [.null, .null, .null, .null, .null, .int (iI 0), .int (iI 0), .int (iI 0), .int (iI 0), .int (iI 0), .int (iI 0)])) :: [])) (b := b + 1) (h := h + 1) (List.append_assoc _ _ _).symm (List.append_assoc _ _ _) (had_in had 0 3 (by decide))
  rintro _ _ ⟨rfl, rfl⟩
  refine gc_putF (W0 := V) (L := (ad b, .inr (5, [.null, .null, .null, .null, .null, .int (iI 0), .int (iI 0), .int (iI 0), .int (iI 0), .int (iI 0), .int (iI 0)])) :: clX3 cy ad (b + 1)) 0 dX1_init_12 ff_X1_12 rfl rfl rfl rfl (show (1 : Nat) < 11 by decide) ?_
  refine gc_aload_n dX1_init_15 rfl rfl ?_
  refine gc_new (N := 6) (ci := 8) (k := b + 5) (W0 := V) (L := (ad b, .inr (5, [.null, .ref (ad (b + 1)), .null, .null, .null, .int (iI 0), .int (iI 0), .int (iI 0), .int (iI 0), .int (iI 0), .int (iI 0)])) :: clX3 cy ad (b + 1)) (kc := 15) (ks := 321) (fs := [.int (iI 0), .null, .null, .null, .null, .null]) dX1_init_16 (tb_in 197 (by decide +kernel) (by decide +kernel)) (tb_in 198 (by decide +kernel) (by decide +kernel)) (tb_in 8 (by decide +kernel) (by decide +kernel)) iaX4 tyX4 tyX4_ok rfl (by decide) (had 4 (by decide)) ?_
  refine gc_dup dX1_init_19 rfl ?_
  refine gc_call (d' := 1) (kc' := 5) (ks' := 256) (kc2 := 10) (ks2 := 65) (y' := mX4_init) (b := b + 5) (as := []) (rest := [.ref (b + 5), .ref b]) (n := 0) (fun w h' => w = V ++ (((ad b, .inr (5, [.null, .ref (ad (b + 1)), .null, .null, .null, .int (iI 0), .int (iI 0), .int (iI 0), .int (iI 0), .int (iI 0), .int (iI 0)])) :: clX3 cy ad (b + 1)) ++ clX4 cy ad (b + 5)) ∧ h' = h + 10) dX1_init_20 rfl (Or.inr (fw_in 199 (by decide +kernel) (by decide +kernel))) ok_X4_init ⟨rfl, rfl⟩ rfl (by decide) (by simp) (Nat.le_of_ble_eq_true rfl) (by decide) ?_ ?_
  · exact K_X4 (V := V ++ ((ad b, .inr (5, [.null, .ref (ad (b + 1)), .null, .null, .null, .int (iI 0), .int (iI 0), .int (iI 0), .int (iI 0), .int (iI 0), .int (iI 0)])) :: clX3 cy ad (b + 1))) (b := b + 5) (h := h + 5) (List.append_assoc _ _ _).symm (List.append_assoc _ _ _) (had_in had 4 5 (by decide))
  rintro _ _ ⟨rfl, rfl⟩
  refine gc_putF (W0 := V) (L := (ad b, .inr (5, [.null, .ref (ad (b + 1)), .null, .null, .null, .int (iI 0), .int (iI 0), .int (iI 0), .int (iI 0), .int (iI 0), .int (iI 0)])) :: (clX3 cy ad (b + 1) ++ clX4 cy ad (b + 5))) 0 dX1_init_23 ff_X1_21 rfl rfl rfl rfl (show (2 : Nat) < 11 by decide) ?_
  refine gc_aload_n dX1_init_26 rfl rfl ?_
  refine gc_new (N := 4) (ci := 9) (k := b + 11) (W0 := V) (L := (ad b, .inr (5, [.null, .ref (ad (b + 1)), .ref (ad (b + 5)), .null, .null, .int (iI 0), .int (iI 0), .int (iI 0), .int (iI 0), .int (iI 0), .int (iI 0)])) :: (clX3 cy ad (b + 1) ++ clX4 cy ad (b + 5))) (kc := 9) (ks := 61) (fs := [.int (iI 0), .null, .null, .null]) dX1_init_27 (tb_in 231 (by decide +kernel) (by decide +kernel)) (tb_in 232 (by decide +kernel) (by decide +kernel)) (tb_in 9 (by decide +kernel) (by decide +kernel)) iaX5 tyX5 tyX5_ok rfl (by decide) (had 10 (by decide)) ?_
  refine gc_dup dX1_init_30 rfl ?_
  refine gc_call (d' := 1) (kc' := 3) (ks' := 36) (kc2 := 6) (ks2 := 25) (y' := mX5_init) (b := b + 11) (as := []) (rest := [.ref (b + 11), .ref b]) (n := 0) (fun w h' => w = V ++ (((ad b, .inr (5, [.null, .ref (ad (b + 1)), .ref (ad (b + 5)), .null, .null, .int (iI 0), .int (iI 0), .int (iI 0), .int (iI 0), .int (iI 0), .int (iI 0)])) :: (clX3 cy ad (b + 1) ++ clX4 cy ad (b + 5))) ++ clX5 cy ad (b + 11)) ∧ h' = h + 14) dX1_init_31 rfl (Or.inr (fw_in 233 (by decide +kernel) (by decide +kernel))) ok_X5_init ⟨rfl, rfl⟩ rfl (by decide) (by simp) (Nat.le_of_ble_eq_true rfl) (by decide) ?_ ?_
  · exact K_X5 (V := V ++ ((ad b, .inr (5, [.null, .ref (ad (b + 1)), .ref (ad (b + 5)), .null, .null, .int (iI 0), .int (iI 0), .int (iI 0), .int (iI 0), .int (iI 0), .int (iI 0)])) :: (clX3 cy ad (b + 1) ++ clX4 cy ad (b + 5)))) (b := b + 11) (h := h + 11) (List.append_assoc _ _ _).symm (List.append_assoc _ _ _) (had_in had 10 3 (by decide))
  rintro _ _ ⟨rfl, rfl⟩
  refine gc_putF (W0 := V) (L := (ad b, .inr (5, [.null, .ref (ad (b + 1)), .ref (ad (b + 5)), .null, .null, .int (iI 0), .int (iI 0), .int (iI 0), .int (iI 0), .int (iI 0), .int (iI 0)])) :: ((clX3 cy ad (b + 1) ++ clX4 cy ad (b + 5)) ++ clX5 cy ad (b + 11))) 0 dX1_init_34 ff_X1_28 rfl rfl rfl rfl (show (3 : Nat) < 11 by decide) ?_
  refine gc_aload_n dX1_init_37 rfl rfl ?_
  refine gc_new (N := 5) (ci := 4) (k := b + 15) (W0 := V) (L := (ad b, .inr (5, [.null, .ref (ad (b + 1)), .ref (ad (b + 5)), .ref (ad (b + 11)), .null, .int (iI 0), .int (iI 0), .int (iI 0), .int (iI 0), .int (iI 0), .int (iI 0)])) :: ((clX3 cy ad (b + 1) ++ clX4 cy ad (b + 5)) ++ clX5 cy ad (b + 11))) (kc := 5) (ks := 20) (fs := [.null, .null, .null, .null, .null]) dX1_init_38 (tb_in 256 (by decide +kernel) (by decide +kernel)) (tb_in 257 (by decide +kernel) (by decide +kernel)) (tb_in 10 (by decide +kernel) (by decide +kernel)) iaX0 tyX0 tyX0_ok rfl (by decide) (had 14 (by decide)) ?_
  refine gc_dup dX1_init_41 rfl ?_
  refine gc_call (d' := 1) (kc' := 5) (ks' := 20) (kc2 := 0) (ks2 := 0) (y' := mX0_init) (b := b + 15) (as := []) (rest := [.ref (b + 15), .ref b]) (n := 0) (fun w h' => w = V ++ (((ad b, .inr (5, [.null, .ref (ad (b + 1)), .ref (ad (b + 5)), .ref (ad (b + 11)), .null, .int (iI 0), .int (iI 0), .int (iI 0), .int (iI 0), .int (iI 0), .int (iI 0)])) :: ((clX3 cy ad (b + 1) ++ clX4 cy ad (b + 5)) ++ clX5 cy ad (b + 11))) ++ clX0 cy ad (b + 15)) ∧ h' = h + 20) dX1_init_42 rfl (Or.inr (fw_in 258 (by decide +kernel) (by decide +kernel))) ok_X0_init ⟨rfl, rfl⟩ rfl (by decide) (by simp) (Nat.le_of_ble_eq_true rfl) (by decide) ?_ ?_
  · exact K_X0 (V := V ++ ((ad b, .inr (5, [.null, .ref (ad (b + 1)), .ref (ad (b + 5)), .ref (ad (b + 11)), .null, .int (iI 0), .int (iI 0), .int (iI 0), .int (iI 0), .int (iI 0), .int (iI 0)])) :: ((clX3 cy ad (b + 1) ++ clX4 cy ad (b + 5)) ++ clX5 cy ad (b + 11)))) (b := b + 15) (h := h + 15) (List.append_assoc _ _ _).symm (List.append_assoc _ _ _) (had_in had 14 5 (by decide))
  rintro _ _ ⟨rfl, rfl⟩
  refine gc_putF (W0 := V) (L := (ad b, .inr (5, [.null, .ref (ad (b + 1)), .ref (ad (b + 5)), .ref (ad (b + 11)), .null, .int (iI 0), .int (iI 0), .int (iI 0), .int (iI 0), .int (iI 0), .int (iI 0)])) :: (((clX3 cy ad (b + 1) ++ clX4 cy ad (b + 5)) ++ clX5 cy ad (b + 11)) ++ clX0 cy ad (b + 15))) 0 dX1_init_45 ff_X1_35 rfl rfl rfl rfl (show (4 : Nat) < 11 by decide) ?_
  refine gc_aload_n dX1_init_48 rfl rfl ?_
  refine gc_aload_n dX1_init_49 rfl rfl ?_
  refine gc_putF (W0 := V) (L := (ad b, .inr (5, [.null, .ref (ad (b + 1)), .ref (ad (b + 5)), .ref (ad (b + 11)), .ref (ad (b + 15)), .int (iI 0), .int (iI 0), .int (iI 0), .int (iI 0), .int (iI 0), .int (iI 0)])) :: (((clX3 cy ad (b + 1) ++ clX4 cy ad (b + 5)) ++ clX5 cy ad (b + 11)) ++ clX0 cy ad (b + 15))) 0 dX1_init_50 ff_X1_39 rfl rfl rfl rfl (show (0 : Nat) < 11 by decide) ?_
  exact gc_return dX1_init_53 rfl ⟨hf, rfl⟩
theorem ap_mid {α : Type} {A B : List α} {x : α} : (A ++ x :: B)[A.length]? = some x := by
  rw [List.getElem?_append_right (Nat.le_refl _), Nat.sub_self]
  rfl
theorem ap_mids {α : Type} {A B : List α} {x z : α} : (A ++ x :: B).set A.length z = A ++ z :: B := by
  rw [List.set_append_right _ _ (Nat.le_refl _), Nat.sub_self]
  rfl
theorem ap_mid2 {α : Type} {A B C : List α} {x z : α} : (A ++ x :: (B ++ z :: C))[A.length + 1 + B.length]? = some z := by
  rw [List.getElem?_append_right (by omega), show A.length + 1 + B.length - A.length = B.length + 1 by omega, List.getElem?_cons_succ]
  exact ap_mid
abbrev rwq (cy : Nat → ClassId) (n : Nat) (f : Nat → Option Nat) : va_E := .inl (cy 3, n, .inr (.inr (.inr (.inr f))))
theorem gc_aastore2 {D : va_G} {cy : Nat → ClassId} {X0 : Nat → Prop} {ad : Nat → Nat} {d kc ks : Nat} {y : MI} {PQ : Array Value → State → Outcome → State → Prop} {PX : String → State → State → Prop} {pc : Nat} {ls st : List Value} {W0 A B C ws : va_W} {h a b N : Nat} {x : Int} {n : Nat} {f : Nat → Option Nat} {fs : List Value}
    (hd : decode y.2.1 pc = .ok (.aastore, 1)) (hw : ws = W0 ++ (A ++ (ad a, rwq cy N f) :: (B ++ (ad b, .inr (5, fs)) :: C))) (hx : x = (n : Int)) (hn : n < N) (hN : N < 4000)
    (K : gc D cy X0 ad d kc ks y PQ PX (pc + 1) ls st (W0 ++ (A ++ (ad a, rwq cy N (va_up f n (some (ad b)))) :: (B ++ (ad b, .inr (5, fs)) :: C))) h) : gc D cy X0 ad d kc ks y PQ PX pc ls (.ref b :: .int (iI x) :: .ref a :: st) ws h := by
  subst hw
  refine gc_aastore A.length (A.length + 1 + B.length) hd ap_mid ap_mid2 hx hn hN ?_
  rw [ap_mids]
  exact K
abbrev hiH (ad : Nat → Nat) (b : Nat) : Nat × va_E := (ad b, .inr (6, [.ref (ad (b + 1)), .int (iI 0), .int (iI 0)]))
theorem H_step {D : va_G} {cy : Nat → ClassId} {X0 : Nat → Prop} {ad : Nat → Nat} {d kc ks : Nat} {PQ : Array Value → State → Outcome → State → Prop} {PX : String → State → State → Prop} {V R : va_W} {b q c k h : Nat} {f : Nat → Option Nat} (hk : k < 8) (hd3 : 3 ≤ d) (had : ∀ i, i < 21 → ad (c + i) = h + i)
    (K : gc D cy X0 ad d kc ks mX2_init PQ PX 15 [.ref b, .ref q, .int (iI ((k + 1 : Nat) : Int))] [] (V ++ ((hiH ad b :: []) ++ (ad (b + 1), rwq cy 8 (va_up f k (some (ad c)))) :: (R ++ chC cy ad c q))) (h + 21)) :
    gc D cy X0 ad d (kc + 21) (ks + 377) mX2_init PQ PX 15 [.ref b, .ref q, .int (iI (k : Int))] [] (V ++ ((hiH ad b :: []) ++ (ad (b + 1), rwq cy 8 f) :: R)) h := by
  have r1 : rng (k : Int) := ⟨by omega, by omega⟩
  refine gc_iload_n dX2_init_15 rfl rfl ?_
  refine gc_bipush dX2_init_16 (by decide) ?_
  refine gc_icmp_ge (tgt := 41) dX2_init_18 rfl r1 (by decide) (fun hh => absurd hh (by omega)) (fun _ => ?_)
  refine gc_aload_n dX2_init_21 rfl rfl ?_
  refine gc_getR 0 dX2_init_22 fl_X2_11 rfl rfl ?_
  refine gc_iload_n dX2_init_25 rfl rfl ?_
  refine gc_new (N := 11) (ci := 5) (k := c) (W0 := V) (L := (hiH ad b :: []) ++ (ad (b + 1), rwq cy 8 f) :: R) (kc := kc + 20) (ks := ks + 366) (fs := [.null, .null, .null, .null, .null, .int (iI 0), .int (iI 0), .int (iI 0), .int (iI 0), .int (iI 0), .int (iI 0)]) dX2_init_26 (tb_in 335 (by decide +kernel) (by decide +kernel)) (tb_in 170 (by decide +kernel) (by decide +kernel)) (tb_in 6 (by decide +kernel) (by decide +kernel)) iaX1 tyX1 tyX1_ok rfl (by decide) (had 0 (by decide)) ?_
  refine gc_dup dX2_init_29 rfl ?_
  refine gc_aload_n dX2_init_30 rfl rfl ?_
  refine gc_call (d' := 2) (kc' := 20) (ks' := 366) (kc2 := kc) (ks2 := ks) (y' := mX1_init) (b := c) (as := [.ref q]) (rest := [.ref c, .int (iI (k : Int)), .ref (b + 1)]) (n := 1) (fun w h' => w = V ++ (((hiH ad b :: []) ++ (ad (b + 1), rwq cy 8 f) :: R) ++ chC cy ad c q) ∧ h' = h + 21) dX2_init_31 rfl (Or.inl ml_X2_17) ok_X1_init ⟨rfl, rfl⟩ rfl (by decide) (by simp [Value.category]) (Nat.le_of_ble_eq_true rfl) ⟨hd3, by omega, by omega⟩ ?_ ?_
  · refine K_X1 (V := V ++ ((hiH ad b :: []) ++ (ad (b + 1), rwq cy 8 f) :: R)) (h := h + 1) (List.append_assoc _ _ _).symm (List.append_assoc _ _ _) (fun i hi => ?_)
    rw [show c + 1 + i = c + (1 + i) by omega, had (1 + i) (by omega)]; omega
  rintro _ _ ⟨rfl, rfl⟩
  refine gc_aastore2 (W0 := V) (A := hiH ad b :: []) (B := R) (C := chT cy ad c) (N := 8) (f := f) dX2_init_34 rfl rfl hk (by decide) ?_
  refine gc_iinc (v := (k : Int)) dX2_init_35 rfl (by decide) ?_
  refine gc_goto (tgt := 15) dX2_init_38 rfl ?_
  exact K
def hiF (ad : Nat → Nat) (b : Nat) : Nat → Nat → Option Nat
  | 0 => fun _ => none
  | k + 1 => va_up (hiF ad b k) k (some (ad (b + 2 + 21 * k)))
def hiR (cy : Nat → ClassId) (ad : Nat → Nat) (b q : Nat) : Nat → va_W
  | 0 => []
  | k + 1 => hiR cy ad b q k ++ chC cy ad (b + 2 + 21 * k) q
abbrev hiC (cy : Nat → ClassId) (ad : Nat → Nat) (b q : Nat) : va_W := (hiH ad b :: []) ++ (ad (b + 1), rwq cy 8 (hiF ad b 8)) :: hiR cy ad b q 8
theorem K_X2 {D : va_G} {cy : Nat → ClassId} {X0 : Nat → Prop} {ad : Nat → Nat} {V ws wf : va_W} {b q h : Nat} (hw : ws = V ++ [(ad b, .inr (6, [.null, .int (iI 0), .int (iI 0)]))]) (hf : V ++ hiC cy ad b q = wf) (had : ∀ i, i < 169 → ad (b + 1 + i) = h + i) :
    gc D cy X0 ad 3 169 3024 mX2_init (gcQ D X0 (fun w h' => w = wf ∧ h' = h + 169)) noX 0 [.ref b, .ref q, .null] [] ws h := by
  subst hw
  refine gc_aload_n dX2_init_0 rfl rfl ?_
  refine gc_obj dX2_init_1 (tb_in 334 (by decide +kernel) (by decide +kernel)) (by decide) (by decide) ?_
  refine gc_aload_n dX2_init_4 rfl rfl ?_
  refine gc_bipush dX2_init_5 (by decide) ?_
  refine gc_newq (N := 8) (k := b + 1) (W0 := V) (L := [(ad b, .inr (6, [.null, .int (iI 0), .int (iI 0)]))]) (kc := 168) (ks := 3016) dX2_init_7 (tb_in 335 (by decide +kernel) (by decide +kernel)) rfl (by decide) (had 0 (by decide)) ?_
  refine gc_putF (W0 := V) (L := [(ad b, .inr (6, [.null, .int (iI 0), .int (iI 0)])), (ad (b + 1), rwq cy 8 (hiF ad b 0))]) 0 dX2_init_10 ff_X2_11 rfl rfl rfl rfl (show (0 : Nat) < 3 by decide) ?_
  refine gc_iconst dX2_init_13 ?_
  refine gc_istore_n dX2_init_14 rfl (by decide) ?_
  refine H_step (kc := 147) (ks := 2639) (R := hiR cy ad b q 0) (c := b + 2 + 21 * 0) (k := 0) (h := h + 1 + 21 * 0) (f := hiF ad b 0) (by decide) (by decide) (fun i hi => ?_) ?_
  · rw [show b + 2 + 21 * 0 + i = b + 1 + (1 + 21 * 0 + i) by omega, had (1 + 21 * 0 + i) (by omega)]; omega
  refine H_step (kc := 126) (ks := 2262) (R := hiR cy ad b q 1) (c := b + 2 + 21 * 1) (k := 1) (h := h + 1 + 21 * 1) (f := hiF ad b 1) (by decide) (by decide) (fun i hi => ?_) ?_
  · rw [show b + 2 + 21 * 1 + i = b + 1 + (1 + 21 * 1 + i) by omega, had (1 + 21 * 1 + i) (by omega)]; omega
  refine H_step (kc := 105) (ks := 1885) (R := hiR cy ad b q 2) (c := b + 2 + 21 * 2) (k := 2) (h := h + 1 + 21 * 2) (f := hiF ad b 2) (by decide) (by decide) (fun i hi => ?_) ?_
  · rw [show b + 2 + 21 * 2 + i = b + 1 + (1 + 21 * 2 + i) by omega, had (1 + 21 * 2 + i) (by omega)]; omega
  refine H_step (kc := 84) (ks := 1508) (R := hiR cy ad b q 3) (c := b + 2 + 21 * 3) (k := 3) (h := h + 1 + 21 * 3) (f := hiF ad b 3) (by decide) (by decide) (fun i hi => ?_) ?_
  · rw [show b + 2 + 21 * 3 + i = b + 1 + (1 + 21 * 3 + i) by omega, had (1 + 21 * 3 + i) (by omega)]; omega
  refine H_step (kc := 63) (ks := 1131) (R := hiR cy ad b q 4) (c := b + 2 + 21 * 4) (k := 4) (h := h + 1 + 21 * 4) (f := hiF ad b 4) (by decide) (by decide) (fun i hi => ?_) ?_
  · rw [show b + 2 + 21 * 4 + i = b + 1 + (1 + 21 * 4 + i) by omega, had (1 + 21 * 4 + i) (by omega)]; omega
  refine H_step (kc := 42) (ks := 754) (R := hiR cy ad b q 5) (c := b + 2 + 21 * 5) (k := 5) (h := h + 1 + 21 * 5) (f := hiF ad b 5) (by decide) (by decide) (fun i hi => ?_) ?_
  · rw [show b + 2 + 21 * 5 + i = b + 1 + (1 + 21 * 5 + i) by omega, had (1 + 21 * 5 + i) (by omega)]; omega
  refine H_step (kc := 21) (ks := 377) (R := hiR cy ad b q 6) (c := b + 2 + 21 * 6) (k := 6) (h := h + 1 + 21 * 6) (f := hiF ad b 6) (by decide) (by decide) (fun i hi => ?_) ?_
  · rw [show b + 2 + 21 * 6 + i = b + 1 + (1 + 21 * 6 + i) by omega, had (1 + 21 * 6 + i) (by omega)]; omega
  refine H_step (kc := 0) (ks := 0) (R := hiR cy ad b q 7) (c := b + 2 + 21 * 7) (k := 7) (h := h + 1 + 21 * 7) (f := hiF ad b 7) (by decide) (by decide) (fun i hi => ?_) ?_
  · rw [show b + 2 + 21 * 7 + i = b + 1 + (1 + 21 * 7 + i) by omega, had (1 + 21 * 7 + i) (by omega)]; omega
  refine gc_iload_n dX2_init_15 rfl rfl ?_
  refine gc_bipush dX2_init_16 (by decide) ?_
  refine gc_icmp_ge (tgt := 41) dX2_init_18 rfl (by decide) (by decide) (fun _ => ?_) (fun hh => absurd hh (by decide))
  exact gc_return dX2_init_41 rfl ⟨hf, rfl⟩
