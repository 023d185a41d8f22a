/-! OWN's part of a memory: its numbers and rows ω from c on, the rest μ -/
def ow (c : Nat) (ω μ : Mem) : Mem := fun b j => if c ≤ b ∧ b < c + 17 then ω (b - c) j else μ b j
section OMode
variable {z d kc ks : Nat} {y : MI} {Q : Option Value → Mem → Prop} {X : String → Mem → Prop} {pc : Nat} {ls st : List Value} {μ ω : Mem} {c r : Nat}
theorem ow_r {j : Nat} (h : r < 17) : ow c ω μ (c + r) j = ω r j := by
  unfold ow
  rw [if_pos ⟨by omega, by omega⟩, Nat.add_sub_cancel_left]
theorem ow_o {b j : Nat} (h : b < c ∨ c + 17 ≤ b) : ow c ω μ b j = μ b j := if_neg (by omega)
theorem ow_v (c : Nat) (μ : Mem) : ow c (vw c μ) μ = μ := by
  funext b j; unfold ow vw
  split
  · rw [show c + (b - c) = b by omega]
  · rfl
theorem ow_w {k : Nat} {v : Int} (h : r < 17) : wr (ow c ω μ) (c + r) k v = ow c (wr ω r k v) μ := by
  funext b j; unfold wr ow
  by_cases h1 : c ≤ b ∧ b < c + 17
  · rw [if_pos h1, if_pos h1]
    by_cases h2 : b = c + r ∧ j = k
    · rw [if_pos h2]
      show v = if b - c = r ∧ j = k then v else ω (b - c) j
      rw [if_pos ⟨by omega, h2.2⟩]
    · rw [if_neg h2]
      show ω (b - c) j = if b - c = r ∧ j = k then v else ω (b - c) j
      rw [if_neg (by omega)]
  · rw [if_neg h1, if_neg h1, if_neg (by omega)]
theorem ow_wo {a k : Nat} {v : Int} (h : a < c ∨ c + 17 ≤ a) : wr (ow c ω μ) a k v = ow c ω (wr μ a k v) := by
  funext b j; unfold wr ow
  by_cases h1 : c ≤ b ∧ b < c + 17
  · rw [if_pos h1, if_neg (by omega), if_pos h1]
  · rw [if_neg h1, if_neg h1]
theorem vw_ow : ∀ r, r < 17 → vw c (ow c ω μ) r = ω r := fun r h => funext (fun _ => ow_r h)
theorem mt_ow (c : Nat) {as : List Value} (K : mt z d kc ks y as Q X (ow c (vw c μ) μ)) : mt z d kc ks y as Q X μ := mt_mem (ow_v c μ).symm K
theorem go_wget {idx ci j : Nat} {fs : List (Option Nat)} (hd : decode y.2.1 pc = .ok (.getfield idx, 3)) (hf : flk y.1.cls idx ci j) (hc : is_ow c) (hr : r < 17) (hs : own_shp c r = (0, ci, fs)) (hj : fs[j]? = some none) (hz : c + 17 ≤ z) (K : rng (ω r j) → go z d kc ks y Q X (pc + 3) ls (.int (iI (ω r j)) :: st) (ow c ω μ)) : go z d kc ks y Q X pc ls (.ref (c + r) :: st) (ow c ω μ) :=
  go_getI hd hf ((ow_sh hc r hr).trans hs) hj (by omega) (by rw [ow_r hr]; exact K)
theorem go_wput {idx ci j : Nat} {v : Int} {fs : List (Option Nat)} (hd : decode y.2.1 pc = .ok (.putfield idx, 3)) (hf : fpk y.1.cls idx ci j .int) (hc : is_ow c) (hr : r < 17) (hs : own_shp c r = (0, ci, fs)) (hj : fs[j]? = some none) (hz : c + 17 ≤ z) (hv : rng v) (K : go z d kc ks y Q X (pc + 3) ls st (ow c (wr ω r j v) μ)) : go z d kc ks y Q X pc ls (.int (iI v) :: .ref (c + r) :: st) (ow c ω μ) :=
  go_putI hd hf ((ow_sh hc r hr).trans hs) hj (by omega) hv (by rw [ow_w hr]; exact K)
theorem go_wputW {idx ci j : Nat} {v : Int} {fs : List (Option Nat)} (hd : decode y.2.1 pc = .ok (.putfield idx, 3)) (hf : fpk y.1.cls idx ci j .int) (hc : is_ow c) (hr : r < 17) (hs : own_shp c r = (0, ci, fs)) (hj : fs[j]? = some none) (hz : c + 17 ≤ z) (K : go z d kc ks y Q X (pc + 3) ls st (ow c (wr ω r j (wp v)) μ)) : go z d kc ks y Q X pc ls (.int (iI v) :: .ref (c + r) :: st) (ow c ω μ) :=
  go_putW hd hf ((ow_sh hc r hr).trans hs) hj (by omega) (by rw [ow_w hr]; exact K)
theorem go_wial {n k : Nat} {i : Int} {fs : List (Option Nat)} (hd : decode y.2.1 pc = .ok (.iaload, 1)) (hc : is_ow c) (hr : r < 17) (hs : own_shp c r = (1, n, fs)) (hz : c + 17 ≤ z) (hi : i = (k : Int)) (hk : k < n) (hn : n < 4000) (K : rng (ω r k) → go z d kc ks y Q X (pc + 1) ls (.int (iI (ω r k)) :: st) (ow c ω μ)) : go z d kc ks y Q X pc ls (.int (iI i) :: .ref (c + r) :: st) (ow c ω μ) :=
  go_iaload hd ((ow_sh hc r hr).trans hs) (by omega) hi hk hn (by rw [ow_r hr]; exact K)
theorem go_wias {n k : Nat} {i v : Int} {fs : List (Option Nat)} (hd : decode y.2.1 pc = .ok (.iastore, 1)) (hc : is_ow c) (hr : r < 17) (hs : own_shp c r = (1, n, fs)) (hz : c + 17 ≤ z) (hi : i = (k : Int)) (hk : k < n) (hn : n < 4000) (hv : rng v) (K : go z d kc ks y Q X (pc + 1) ls st (ow c (wr ω r k v) μ)) : go z d kc ks y Q X pc ls (.int (iI v) :: .int (iI i) :: .ref (c + r) :: st) (ow c ω μ) :=
  go_iastore hd ((ow_sh hc r hr).trans hs) (by omega) hi hk hn hv (by rw [ow_w hr]; exact K)
theorem go_wiasW {n k : Nat} {i v : Int} {fs : List (Option Nat)} (hd : decode y.2.1 pc = .ok (.iastore, 1)) (hc : is_ow c) (hr : r < 17) (hs : own_shp c r = (1, n, fs)) (hz : c + 17 ≤ z) (hi : i = (k : Int)) (hk : k < n) (hn : n < 4000) (K : go z d kc ks y Q X (pc + 1) ls st (ow c (wr ω r k (wp v)) μ)) : go z d kc ks y Q X pc ls (.int (iI v) :: .int (iI i) :: .ref (c + r) :: st) (ow c ω μ) :=
  go_iastoreW hd ((ow_sh hc r hr).trans hs) (by omega) hi hk hn (by rw [ow_w hr]; exact K)
theorem go_wzal {n k : Nat} {i : Int} {fs : List (Option Nat)} (hd : decode y.2.1 pc = .ok (.baload, 1)) (hc : is_ow c) (hr : r < 17) (hs : own_shp c r = (2, n, fs)) (hz : c + 17 ≤ z) (hi : i = (k : Int)) (hk : k < n) (hn : n < 4000) (K : rng (ω r k) → go z d kc ks y Q X (pc + 1) ls (.int (iI (ω r k)) :: st) (ow c ω μ)) : go z d kc ks y Q X pc ls (.int (iI i) :: .ref (c + r) :: st) (ow c ω μ) :=
  go_zaload hd ((ow_sh hc r hr).trans hs) (by omega) hi hk hn (by rw [ow_r hr]; exact K)
theorem go_wzas {n k : Nat} {i v : Int} {fs : List (Option Nat)} (hd : decode y.2.1 pc = .ok (.bastore, 1)) (hc : is_ow c) (hr : r < 17) (hs : own_shp c r = (2, n, fs)) (hz : c + 17 ≤ z) (hi : i = (k : Int)) (hk : k < n) (hn : n < 4000) (hv : v = 0 ∨ v = 1) (K : go z d kc ks y Q X (pc + 1) ls st (ow c (wr ω r k v) μ)) : go z d kc ks y Q X pc ls (.int (iI v) :: .int (iI i) :: .ref (c + r) :: st) (ow c ω μ) :=
  go_zastore hd ((ow_sh hc r hr).trans hs) (by omega) hi hk hn hv (by rw [ow_w hr]; exact K)
end OMode
section LawRules2
variable {y : MI} {z d kc ks : Nat} {Q : Option Value → Mem → Prop} {X : String → Mem → Prop} {pc : Nat} {ls st : List Value} {μ : Mem}
theorem lh_fgt {ad : Nat → Nat} {lsA : Array Slot} {nL : Nat} {ls : List Value} {i : Nat} (h : lh ad lsA nL ls) : lh ad lsA nL (ls.set i .null) := by
  refine ⟨h.1, h.2.1, fun w hw => ?_, by rw [List.length_set]; exact h.2.2.2.1, fun j w hj hn => ?_⟩
  · rcases List.mem_or_eq_of_mem_set hw with h1 | h1
    · exact h.2.2.1 w h1
    · rw [h1]; rfl
  · by_cases e : i = j
    · subst e
      have hl : i < ls.length := by
        have := (List.getElem?_eq_some_iff.mp hj).1
        rwa [List.length_set] at this
      rw [List.getElem?_set_self hl] at hj
      cases hj
      exact absurd rfl hn
    · rw [List.getElem?_set_ne e] at hj
      exact h.2.2.2.2 j w hj hn
/-- a local is forgotten -/
theorem go_fgt (i : Nat) (K : go z d kc ks y Q X pc (ls.set i .null) st μ) : go z d kc ks y Q X pc ls st μ := by
  intro p l e R s m args below meth c D cy X0 mc ms nn ad hc H locs cells slots lsA dv hw hS hl h1 h2
  exact go_use K hc hw hS (lh_fgt hl) h1 h2
theorem go_rng (K : (∀ a i, rng (μ a i)) → go z d kc ks y Q X pc ls st μ) : go z d kc ks y Q X pc ls st μ := by
  intro p l e R s m args below meth c D cy X0 mc ms nn ad hc H locs cells slots lsA dv hw hS hl h1 h2
  exact go_use (K hw.1) hc hw hS hl h1 h2
theorem go_widen {kc' ks' : Nat} (h1 : kc ≤ kc') (h2 : ks ≤ ks') (K : go z d kc ks y Q X pc ls st μ) : go z d kc' ks' y Q X pc ls st μ := by
  intro p l e R s m args below meth c D cy X0 mc ms nn ad hc H locs cells slots lsA dv hw hS hl g1 g2
  exact go_use K hc hw hS hl (by omega) (by omega)
end LawRules2
