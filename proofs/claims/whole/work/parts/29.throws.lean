/-! the class over a memory that is a chamber's part put into another -/
theorem h20 : is_ch 20 := by decide
theorem h41 : is_ch 41 := by decide
section BMode
variable {z d kc ks : Nat} {y : MI} {Q : Option Value → Mem → Prop} {X : String → Mem → Prop} {pc : Nat} {ls st : List Value} {μ σ : Mem} {c b : Nat}
theorem put_wo {i : Nat} {v : Int} (h : b < c ∨ c + 21 ≤ b) : wr (put c σ μ) b i v = put c σ (wr μ b i v) := by
  funext a j
  unfold wr put
  by_cases g : c ≤ a ∧ a < c + 21
  · rw [if_pos g, if_pos g, if_neg (by omega)]
  · rw [if_neg g, if_neg g]
theorem go_bget {idx ci j : Nat} {fs : List (Option Nat)} (hd : decode y.2.1 pc = .ok (.getfield idx, 3)) (hf : flk y.1.cls idx ci j) (hs : shp b = (0, ci, fs)) (hj : fs[j]? = some none) (hb : b < z) (ho : b < c ∨ c + 21 ≤ b) (K : rng (μ b j) → go z d kc ks y Q X (pc + 3) ls (.int (iI (μ b j)) :: st) (put c σ μ)) : go z d kc ks y Q X pc ls (.ref b :: st) (put c σ μ) :=
  go_getI hd hf hs hj hb (by rw [put_o ho]; exact K)
theorem go_bput {idx ci j : Nat} {v : Int} {fs : List (Option Nat)} (hd : decode y.2.1 pc = .ok (.putfield idx, 3)) (hf : fpk y.1.cls idx ci j .int) (hs : shp b = (0, ci, fs)) (hj : fs[j]? = some none) (hb : b < z) (ho : b < c ∨ c + 21 ≤ b) (hv : rng v) (K : go z d kc ks y Q X (pc + 3) ls st (put c σ (wr μ b j v))) : go z d kc ks y Q X pc ls (.int (iI v) :: .ref b :: st) (put c σ μ) :=
  go_putI hd hf hs hj hb hv (by rw [put_wo ho]; exact K)
theorem go_bial {n k : Nat} {i : Int} {fs : List (Option Nat)} (hd : decode y.2.1 pc = .ok (.iaload, 1)) (hs : shp b = (1, n, fs)) (hb : b < z) (ho : b < c ∨ c + 21 ≤ b) (hi : i = (k : Int)) (hk : k < n) (hn : n < 4000) (K : rng (μ b k) → go z d kc ks y Q X (pc + 1) ls (.int (iI (μ b k)) :: st) (put c σ μ)) : go z d kc ks y Q X pc ls (.int (iI i) :: .ref b :: st) (put c σ μ) :=
  go_iaload hd hs hb hi hk hn (by rw [put_o ho]; exact K)
theorem go_bzal {n k : Nat} {i : Int} {fs : List (Option Nat)} (hd : decode y.2.1 pc = .ok (.baload, 1)) (hs : shp b = (2, n, fs)) (hb : b < z) (ho : b < c ∨ c + 21 ≤ b) (hi : i = (k : Int)) (hk : k < n) (hn : n < 4000) (K : rng (μ b k) → go z d kc ks y Q X (pc + 1) ls (.int (iI (μ b k)) :: st) (put c σ μ)) : go z d kc ks y Q X pc ls (.int (iI i) :: .ref b :: st) (put c σ μ) :=
  go_zaload hd hs hb hi hk hn (by rw [put_o ho]; exact K)
end BMode
