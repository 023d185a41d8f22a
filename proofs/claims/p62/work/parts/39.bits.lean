/-! BITS -/
section Bits
variable {z d kc ks : Nat} {y : MI} {Q : Option Value → Mem → Prop} {X : String → Mem → Prop} {pc : Nat} {ls st : List Value} {μ : Mem}
theorem go_iand {a b v : Int} (hd : decode y.2.1 pc = .ok (.iand, 1)) (hv : iI a &&& iI b = iI v) (K : go z d kc ks y Q X (pc + 1) ls (.int (iI v) :: st) μ) : go z d kc ks y Q X pc ls (.int (iI b) :: .int (iI a) :: st) μ := by
  intro p l e R s m args below meth c D cy X0 mc ms nn ad hc H locs cells slots lsA dv hw hS hl h1 h2
  refine lv_iand hc.1 hc.2.1 hd ?_
  rw [hv]
  exact go_use K hc hw hS hl h1 h2
theorem go_ishr {a b v : Int} (hd : decode y.2.1 pc = .ok (.ishr, 1)) (hv : iI a >>> (iI b &&& 31) = iI v) (K : go z d kc ks y Q X (pc + 1) ls (.int (iI v) :: st) μ) : go z d kc ks y Q X pc ls (.int (iI b) :: .int (iI a) :: st) μ := by
  intro p l e R s m args below meth c D cy X0 mc ms nn ad hc H locs cells slots lsA dv hw hS hl h1 h2
  refine lv_ishr hc.1 hc.2.1 hd ?_
  rw [hv]
  exact go_use K hc hw hS hl h1 h2
theorem go_ishl {a b v : Int} (hd : decode y.2.1 pc = .ok (.ishl, 1)) (hv : iI a <<< (iI b &&& 31) = iI v) (K : go z d kc ks y Q X (pc + 1) ls (.int (iI v) :: st) μ) : go z d kc ks y Q X pc ls (.int (iI b) :: .int (iI a) :: st) μ := by
  intro p l e R s m args below meth c D cy X0 mc ms nn ad hc H locs cells slots lsA dv hw hS hl h1 h2
  refine lv_ishl hc.1 hc.2.1 hd ?_
  rw [hv]
  exact go_use K hc hw hS hl h1 h2
theorem go_iushr {a b v : Int} (hd : decode y.2.1 pc = .ok (.iushr, 1)) (hv : ((iI a).toUInt32 >>> ((iI b).toUInt32 &&& Int32.toUInt32 31)).toInt32 = iI v) (K : go z d kc ks y Q X (pc + 1) ls (.int (iI v) :: st) μ) : go z d kc ks y Q X pc ls (.int (iI b) :: .int (iI a) :: st) μ := by
  intro p l e R s m args below meth c D cy X0 mc ms nn ad hc H locs cells slots lsA dv hw hS hl h1 h2
  exact lv_iushr hc.1 hc.2.1 hd hv (go_use K hc hw hS hl h1 h2)
theorem go_i2b {a v : Int} (hd : decode y.2.1 pc = .ok (.i2b, 1)) (hv : (iI a).toInt8.toInt32 = iI v) (K : go z d kc ks y Q X (pc + 1) ls (.int (iI v) :: st) μ) : go z d kc ks y Q X pc ls (.int (iI a) :: st) μ := by
  intro p l e R s m args below meth c D cy X0 mc ms nn ad hc H locs cells slots lsA dv hw hS hl h1 h2
  exact lv_i2b hc.1 hc.2.1 hd hv (go_use K hc hw hS hl h1 h2)
theorem go_i2c {a v : Int} (hd : decode y.2.1 pc = .ok (.i2c, 1)) (hv : ((iI a).toUInt32 % 65536).toInt32 = iI v) (K : go z d kc ks y Q X (pc + 1) ls (.int (iI v) :: st) μ) : go z d kc ks y Q X pc ls (.int (iI a) :: st) μ := by
  intro p l e R s m args below meth c D cy X0 mc ms nn ad hc H locs cells slots lsA dv hw hS hl h1 h2
  exact lv_i2c hc.1 hc.2.1 hd hv (go_use K hc hw hS hl h1 h2)
end Bits
/-- a byte without its sign, and a byte's own number -/
def ub (v : Int) : Int := if v < 0 then v + 256 else v
def sb (v : Int) : Int := if v < 128 then v else v - 256
theorem and255_k : ∀ n : Fin 256, iI ((n.val : Int) - 128) &&& iI 255 = iI (ub ((n.val : Int) - 128)) := by decide +kernel
theorem and255 {v : Int} (h : -128 ≤ v ∧ v < 128) : iI v &&& iI 255 = iI (ub v) := by
  have h1 := and255_k ⟨(v + 128).toNat, by omega⟩
  rw [show (((⟨(v + 128).toNat, by omega⟩ : Fin 256).val : Int) - 128) = v by show ((v + 128).toNat : Int) - 128 = v; omega] at h1
  exact h1
theorem i2b_k : ∀ n : Fin 256, (iI (n.val : Int)).toInt8.toInt32 = iI (sb (n.val : Int)) := by decide +kernel
theorem i2b_s {v : Int} (h : 0 ≤ v ∧ v < 256) : (iI v).toInt8.toInt32 = iI (sb v) := by
  have h1 := i2b_k ⟨v.toNat, by omega⟩
  rw [show (((⟨v.toNat, by omega⟩ : Fin 256).val : Int)) = v by show (v.toNat : Int) = v; omega] at h1
  exact h1
theorem ub_sb {v : Int} (h : 0 ≤ v ∧ v < 256) : ub (sb v) = v := by
  unfold ub sb
  by_cases g : v < 128
  · rw [if_pos g, if_neg (by omega)]
  · rw [if_neg g, if_pos (by omega)]
    omega
theorem sgb_b {v : Int} (h : 0 ≤ v ∧ v < 256) : -128 ≤ sb v ∧ sb v < 128 := by
  unfold sb
  split <;> omega
theorem ub_b {v : Int} (h : -128 ≤ v ∧ v < 128) : 0 ≤ ub v ∧ ub v < 256 := by
  unfold ub
  split <;> omega
/-- the byte at s of an int's four -/
def byt (w : Int) (s : Nat) : Nat := (iI w).toBitVec.toNat / 2 ^ s % 256
theorem byt_b (w : Int) (s : Nat) : byt w s < 256 := Nat.mod_lt _ (by decide)
theorem iI_nat {n : Nat} (h : n < 256) : (iI (n : Int)).toBitVec.toNat = n := by
  have h1 : ∀ k : Fin 256, (iI (k.val : Int)).toBitVec.toNat = k.val := by decide +kernel
  exact h1 ⟨n, h⟩
theorem and_nat (x : Int32) : (x &&& iI 255).toBitVec.toNat = x.toBitVec.toNat % 256 := by
  show (x.toBitVec &&& (iI 255).toBitVec).toNat = _
  rw [BitVec.toNat_and, show (iI 255).toBitVec.toNat = 2 ^ 8 - 1 by decide +kernel, Nat.and_two_pow_sub_one_eq_mod]
theorem i32_ext {a b : Int32} (h : a.toBitVec.toNat = b.toBitVec.toNat) : a = b := Int32.toBitVec_inj.mp (BitVec.eq_of_toNat_eq h)
theorem ush_nat (x : Int32) (c : UInt32) : ((x.toUInt32 >>> c).toInt32).toBitVec.toNat = x.toBitVec.toNat / 2 ^ (c.toNat % 32) := by
  show (x.toUInt32 >>> c).toNat = _
  rw [UInt32.toNat_shiftRight, Nat.shiftRight_eq_div_pow]
  rfl
theorem ssh_nat (x : BitVec 32) (k : Nat) (hk : k ≤ 24) : (x.sshiftRight k).toNat % 256 = x.toNat / 2 ^ k % 256 := by
  apply Nat.eq_of_testBit_eq
  intro i
  rw [show 256 = 2 ^ 8 from rfl, Nat.testBit_mod_two_pow, Nat.testBit_mod_two_pow, Nat.testBit_div_two_pow]
  by_cases h : i < 8
  · have e : (x.sshiftRight k).toNat.testBit i = (x.sshiftRight k).getLsbD i := rfl
    rw [e, BitVec.getLsbD_sshiftRight]
    simp [h, show ¬ 32 ≤ i by omega, show k + i < 32 by omega, BitVec.getLsbD, Nat.add_comm]
  · simp [h]
theorem shr_nat {x : Int32} {k : Nat} (hk : k ≤ 24) (c : Int32) (hc : (c.toBitVec.smod 32).toNat = k) : (x >>> c).toBitVec.toNat % 256 = x.toBitVec.toNat / 2 ^ k % 256 := by
  have h : (x >>> c).toBitVec = x.toBitVec.sshiftRight (c.toBitVec.smod 32).toNat := rfl
  rw [h, hc]
  exact ssh_nat _ _ hk
/-- the byte by '>>>' and '& 255', and by '>>' and '& 255' -/
theorem byt_u (w : Int) (k : Nat) (hk : k = 24 ∨ k = 16 ∨ k = 8 ∨ k = 0) : ∃ v : Int, ((iI w).toUInt32 >>> ((iI (k : Int)).toUInt32 &&& Int32.toUInt32 31)).toInt32 = iI v ∧ iI v &&& iI 255 = iI (byt w k : Nat) := by
  refine ⟨_, (iI_as _).symm, ?_⟩
  rw [iI_as]
  apply i32_ext
  rw [and_nat, iI_nat (byt_b w k), ush_nat]
  unfold byt
  rcases hk with rfl | rfl | rfl | rfl
  · rw [show ((iI ((24 : Nat) : Int)).toUInt32 &&& Int32.toUInt32 31).toNat % 32 = 24 by decide +kernel]
  · rw [show ((iI ((16 : Nat) : Int)).toUInt32 &&& Int32.toUInt32 31).toNat % 32 = 16 by decide +kernel]
  · rw [show ((iI ((8 : Nat) : Int)).toUInt32 &&& Int32.toUInt32 31).toNat % 32 = 8 by decide +kernel]
  · rw [show ((iI ((0 : Nat) : Int)).toUInt32 &&& Int32.toUInt32 31).toNat % 32 = 0 by decide +kernel]
theorem byt_s (w : Int) (k : Nat) (hk : k = 24 ∨ k = 16 ∨ k = 8 ∨ k = 0) : ∃ v : Int, iI w >>> (iI (k : Int) &&& 31) = iI v ∧ iI v &&& iI 255 = iI (byt w k : Nat) := by
  refine ⟨_, (iI_as _).symm, ?_⟩
  rw [iI_as]
  apply i32_ext
  rw [and_nat, iI_nat (byt_b w k)]
  unfold byt
  refine shr_nat (by omega) _ ?_
  rcases hk with rfl | rfl | rfl | rfl <;> decide +kernel
