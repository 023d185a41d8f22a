theorem dJ6_signum_0f7a4_0 : decode cJ6_signum_0f7a4 0 = .ok (.iload_n 0, 1) := by decide +kernel
theorem dJ6_signum_0f7a4_1 : decode cJ6_signum_0f7a4 1 = .ok (.bipush 31, 2) := by decide +kernel
theorem dJ6_signum_0f7a4_3 : decode cJ6_signum_0f7a4 3 = .ok (.ishr, 1) := by decide +kernel
theorem dJ6_signum_0f7a4_4 : decode cJ6_signum_0f7a4 4 = .ok (.iload_n 0, 1) := by decide +kernel
theorem dJ6_signum_0f7a4_5 : decode cJ6_signum_0f7a4 5 = .ok (.ineg, 1) := by decide +kernel
theorem dJ6_signum_0f7a4_6 : decode cJ6_signum_0f7a4 6 = .ok (.bipush 31, 2) := by decide +kernel
theorem dJ6_signum_0f7a4_8 : decode cJ6_signum_0f7a4 8 = .ok (.iushr, 1) := by decide +kernel
theorem dJ6_signum_0f7a4_9 : decode cJ6_signum_0f7a4 9 = .ok (.ior, 1) := by decide +kernel
theorem dJ6_signum_0f7a4_10 : decode cJ6_signum_0f7a4 10 = .ok (.ireturn, 1) := by decide +kernel
def mJ6_signum_0f7a4 : MI := (yJ6_signum_0f7a4, cJ6_signum_0f7a4, 1, some .int, [], none)
theorem ok_J6_signum_0f7a4 : mokS mJ6_signum_0f7a4 1 := ⟨⟨(tb_in 1000 (by decide +kernel) (by decide +kernel)), (tb_in 24 (by decide +kernel) (by decide +kernel)), by decide +kernel, ⟨by decide +kernel, by decide +kernel, by decide +kernel⟩, by decide, rfl, rfl⟩, (tb_in 999 (by decide +kernel) (by decide +kernel))⟩
section Bits2
variable {z d kc ks : Nat} {y : MI} {Q : Option Value → Mem → Prop} {X : String → Mem → Prop} {pc : Nat} {ls st : List Value} {μ : Mem}
theorem go_ior {a b v : Int} (hd : decode y.2.1 pc = .ok (.ior, 1)) (hv : iI a ||| iI b = iI v) (K : go z d kc ks y Q X (pc + 1) ls (.int (iI v) :: st) μ) : go z d kc ks y Q X pc ls (.int (iI b) :: .int (iI a) :: st) μ := by
  intro p l e R s m args below meth c D cy X0 mc ms nn ad hc H locs cells slots lsA dv hw hS hl h1 h2
  refine lv_ior hc.1 hc.2.1 hd ?_
  rw [hv]
  exact go_use K hc hw hS hl h1 h2
theorem go_ixor {a b v : Int} (hd : decode y.2.1 pc = .ok (.ixor, 1)) (hv : iI a ^^^ iI b = iI v) (K : go z d kc ks y Q X (pc + 1) ls (.int (iI v) :: st) μ) : go z d kc ks y Q X pc ls (.int (iI b) :: .int (iI a) :: st) μ := by
  intro p l e R s m args below meth c D cy X0 mc ms nn ad hc H locs cells slots lsA dv hw hS hl h1 h2
  refine lv_ixor hc.1 hc.2.1 hd ?_
  rw [hv]
  exact go_use K hc hw hS hl h1 h2
end Bits2
/-- a number's sign, of small ones -/
def sgx (a : Int) : Int := if a = 0 then 0 else if a > 0 then 1 else -1
theorem sg_1 : ∀ k : Fin 41, iI ((k.val : Int) - 20) >>> (iI 31 &&& 31) = iI (if (k.val : Int) - 20 < 0 then -1 else 0) := by decide +kernel
theorem sg_2 : ∀ k : Fin 41, ((iI (-((k.val : Int) - 20))).toUInt32 >>> ((iI 31).toUInt32 &&& Int32.toUInt32 31)).toInt32 = iI (if (k.val : Int) - 20 > 0 then 1 else 0) := by decide +kernel
theorem sg_3 : ∀ k : Fin 41, iI (if (k.val : Int) - 20 < 0 then -1 else 0) ||| iI (if (k.val : Int) - 20 > 0 then 1 else 0) = iI (sgx ((k.val : Int) - 20)) := by decide +kernel
theorem sgx_3 (a : Int) : sgx a = 0 ∨ sgx a = 1 ∨ sgx a = -1 := by unfold sgx; (repeat' split) <;> omega
set_option maxRecDepth 8000 in
set_option maxHeartbeats 4000000 in
theorem j_signum {z : Nat} {μ : Mem} {a : Int} (ha : -20 ≤ a ∧ a ≤ 20) {Q : Option Value → Mem → Prop} {X : String → Mem → Prop} (K : ∀ v, v = sgx a → (v = 0 ∨ v = 1 ∨ v = -1) → Q (some (.int (iI v))) μ) : mt z 0 0 0 mJ6_signum_0f7a4 [.int (iI a)] Q X μ := by
  show go z 0 0 0 mJ6_signum_0f7a4 Q X 0 [.int (iI a)] [] _
  obtain ⟨k, hk⟩ : ∃ k : Fin 41, a = (k.val : Int) - 20 := ⟨⟨(a + 20).toNat, by omega⟩, by show a = ((a + 20).toNat : Int) - 20; omega⟩
  have h1 := sg_1 k
  have h2 := sg_2 k
  have h3 := sg_3 k
  rw [← hk] at h1 h2 h3
  refine go_iload_n (y := mJ6_signum_0f7a4) (pc := 0) dJ6_signum_0f7a4_0 rfl rfl ?_
  refine go_bipush (y := mJ6_signum_0f7a4) (pc := 1) dJ6_signum_0f7a4_1 (by decide) ?_
  refine go_ishr (y := mJ6_signum_0f7a4) (pc := 3) dJ6_signum_0f7a4_3 (v := (if a < 0 then -1 else 0)) h1 ?_
  refine go_iload_n (y := mJ6_signum_0f7a4) (pc := 4) dJ6_signum_0f7a4_4 rfl rfl ?_
  refine go_ineg (y := mJ6_signum_0f7a4) (pc := 5) dJ6_signum_0f7a4_5 ?_
  refine go_bipush (y := mJ6_signum_0f7a4) (pc := 6) dJ6_signum_0f7a4_6 (by decide) ?_
  refine go_iushr (y := mJ6_signum_0f7a4) (pc := 8) dJ6_signum_0f7a4_8 (v := (if a > 0 then 1 else 0)) h2 ?_
  refine go_ior (y := mJ6_signum_0f7a4) (pc := 9) dJ6_signum_0f7a4_9 (v := sgx a) h3 ?_
  refine go_ireturn (y := mJ6_signum_0f7a4) (pc := 10) dJ6_signum_0f7a4_10 rfl ?_
  exact K _ rfl (sgx_3 a)
