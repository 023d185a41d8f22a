/-! calls by the number of arguments; how far a chamber reaches -/
theorem ch_z {c r : Nat} (h : is_ch c) (hr : r < 21) : c + r < 276 := by have := ch_lt h; omega
section CallN
variable {z d kc ks : Nat} {y : MI} {Q : Option Value → Mem → Prop} {X : String → Mem → Prop} {pc : Nat} {ls st : List Value} {μ : Mem}
theorem go_callV0 {z' d' kc' ks' kc2 ks2 b idx ci : Nat} {y' : MI} {rest : List Value} {fs : List (Option Nat)} (hd : decode y.2.1 pc = .ok (.invokevirtual idx, 3)) (hlk : Cond.methodLink y.1.cls idx y'.1 ∈ aw) (hm : mokV y' 0) (hs : shp b = (0, ci, fs)) (hcl : ∃ T N, vwCl[ci]? = some (y'.1.cls, T, N)) (hb : b < z)
    (hcat : True) (hq : 0 + 1 ≤ y'.2.2.1 ∧ z' ≤ z ∧ d' + 1 ≤ d ∧ kc' + kc2 ≤ kc ∧ ks' + ks2 ≤ ks) (hW : (rest.map fun v => v.category).sum ≤ 8) (hh : y.2.2.2.2.1 = [])
    (K : mt z' d' kc' ks' y' [.ref b] (fun r μ' => go z d kc2 ks2 y Q X (pc + 3) ls (psh r rest) μ') X μ) : go z d kc ks y Q X pc ls (.ref b :: rest) μ :=
  go_callV (as := []) hd rfl hlk hm hs hcl hb rfl hq.1 (by intro v hv; cases hv) hW hq.2.1 hq.2.2.1 hq.2.2.2.1 hq.2.2.2.2 hh K
theorem go_callS0 {z' d' kc' ks' kc2 ks2 idx : Nat} {y' : MI} {rest : List Value} (hd : decode y.2.1 pc = .ok (.invokestatic idx, 3)) (hlk : Cond.methodLink y.1.cls idx y'.1 ∈ aw) (hm : mokS y' 0)
    (hcat : True) (hq : 0 ≤ y'.2.2.1 ∧ z' ≤ z ∧ d' + 1 ≤ d ∧ kc' + kc2 ≤ kc ∧ ks' + ks2 ≤ ks) (hW : (rest.map fun v => v.category).sum ≤ 8) (hh : y.2.2.2.2.1 = [])
    (K : mt z' d' kc' ks' y' [] (fun r μ' => go z d kc2 ks2 y Q X (pc + 3) ls (psh r rest) μ') X μ) : go z d kc ks y Q X pc ls (rest) μ :=
  go_callS (as := []) hd rfl hlk hm rfl hq.1 (by intro v hv; cases hv) hW hq.2.1 hq.2.2.1 hq.2.2.2.1 hq.2.2.2.2 hh K
theorem go_callV1 {z' d' kc' ks' kc2 ks2 b idx ci : Nat} {y' : MI} {a1 : Value} {rest : List Value} {fs : List (Option Nat)} (hd : decode y.2.1 pc = .ok (.invokevirtual idx, 3)) (hlk : Cond.methodLink y.1.cls idx y'.1 ∈ aw) (hm : mokV y' 1) (hs : shp b = (0, ci, fs)) (hcl : ∃ T N, vwCl[ci]? = some (y'.1.cls, T, N)) (hb : b < z)
    (hcat : a1.category = 1) (hq : 1 + 1 ≤ y'.2.2.1 ∧ z' ≤ z ∧ d' + 1 ≤ d ∧ kc' + kc2 ≤ kc ∧ ks' + ks2 ≤ ks) (hW : (rest.map fun v => v.category).sum ≤ 8) (hh : y.2.2.2.2.1 = [])
    (K : mt z' d' kc' ks' y' [.ref b, a1] (fun r μ' => go z d kc2 ks2 y Q X (pc + 3) ls (psh r rest) μ') X μ) : go z d kc ks y Q X pc ls (a1 :: .ref b :: rest) μ :=
  go_callV (as := [a1]) hd rfl hlk hm hs hcl hb rfl hq.1 (by intro v hv; simp only [List.mem_cons, List.not_mem_nil, or_false] at hv; have h1 := hcat; rcases hv with rfl <;> assumption) hW hq.2.1 hq.2.2.1 hq.2.2.2.1 hq.2.2.2.2 hh K
theorem go_callS1 {z' d' kc' ks' kc2 ks2 idx : Nat} {y' : MI} {a1 : Value} {rest : List Value} (hd : decode y.2.1 pc = .ok (.invokestatic idx, 3)) (hlk : Cond.methodLink y.1.cls idx y'.1 ∈ aw) (hm : mokS y' 1)
    (hcat : a1.category = 1) (hq : 1 ≤ y'.2.2.1 ∧ z' ≤ z ∧ d' + 1 ≤ d ∧ kc' + kc2 ≤ kc ∧ ks' + ks2 ≤ ks) (hW : (rest.map fun v => v.category).sum ≤ 8) (hh : y.2.2.2.2.1 = [])
    (K : mt z' d' kc' ks' y' [a1] (fun r μ' => go z d kc2 ks2 y Q X (pc + 3) ls (psh r rest) μ') X μ) : go z d kc ks y Q X pc ls (a1 :: rest) μ :=
  go_callS (as := [a1]) hd rfl hlk hm rfl hq.1 (by intro v hv; simp only [List.mem_cons, List.not_mem_nil, or_false] at hv; have h1 := hcat; rcases hv with rfl <;> assumption) hW hq.2.1 hq.2.2.1 hq.2.2.2.1 hq.2.2.2.2 hh K
theorem go_callV2 {z' d' kc' ks' kc2 ks2 b idx ci : Nat} {y' : MI} {a1 a2 : Value} {rest : List Value} {fs : List (Option Nat)} (hd : decode y.2.1 pc = .ok (.invokevirtual idx, 3)) (hlk : Cond.methodLink y.1.cls idx y'.1 ∈ aw) (hm : mokV y' 2) (hs : shp b = (0, ci, fs)) (hcl : ∃ T N, vwCl[ci]? = some (y'.1.cls, T, N)) (hb : b < z)
    (hcat : a1.category = 1 ∧ a2.category = 1) (hq : 2 + 1 ≤ y'.2.2.1 ∧ z' ≤ z ∧ d' + 1 ≤ d ∧ kc' + kc2 ≤ kc ∧ ks' + ks2 ≤ ks) (hW : (rest.map fun v => v.category).sum ≤ 8) (hh : y.2.2.2.2.1 = [])
    (K : mt z' d' kc' ks' y' [.ref b, a1, a2] (fun r μ' => go z d kc2 ks2 y Q X (pc + 3) ls (psh r rest) μ') X μ) : go z d kc ks y Q X pc ls (a2 :: a1 :: .ref b :: rest) μ :=
  go_callV (as := [a1, a2]) hd rfl hlk hm hs hcl hb rfl hq.1 (by intro v hv; simp only [List.mem_cons, List.not_mem_nil, or_false] at hv; obtain ⟨h1, h2⟩ := hcat; rcases hv with rfl | rfl <;> assumption) hW hq.2.1 hq.2.2.1 hq.2.2.2.1 hq.2.2.2.2 hh K
theorem go_callS2 {z' d' kc' ks' kc2 ks2 idx : Nat} {y' : MI} {a1 a2 : Value} {rest : List Value} (hd : decode y.2.1 pc = .ok (.invokestatic idx, 3)) (hlk : Cond.methodLink y.1.cls idx y'.1 ∈ aw) (hm : mokS y' 2)
    (hcat : a1.category = 1 ∧ a2.category = 1) (hq : 2 ≤ y'.2.2.1 ∧ z' ≤ z ∧ d' + 1 ≤ d ∧ kc' + kc2 ≤ kc ∧ ks' + ks2 ≤ ks) (hW : (rest.map fun v => v.category).sum ≤ 8) (hh : y.2.2.2.2.1 = [])
    (K : mt z' d' kc' ks' y' [a1, a2] (fun r μ' => go z d kc2 ks2 y Q X (pc + 3) ls (psh r rest) μ') X μ) : go z d kc ks y Q X pc ls (a2 :: a1 :: rest) μ :=
  go_callS (as := [a1, a2]) hd rfl hlk hm rfl hq.1 (by intro v hv; simp only [List.mem_cons, List.not_mem_nil, or_false] at hv; obtain ⟨h1, h2⟩ := hcat; rcases hv with rfl | rfl <;> assumption) hW hq.2.1 hq.2.2.1 hq.2.2.2.1 hq.2.2.2.2 hh K
theorem go_callV3 {z' d' kc' ks' kc2 ks2 b idx ci : Nat} {y' : MI} {a1 a2 a3 : Value} {rest : List Value} {fs : List (Option Nat)} (hd : decode y.2.1 pc = .ok (.invokevirtual idx, 3)) (hlk : Cond.methodLink y.1.cls idx y'.1 ∈ aw) (hm : mokV y' 3) (hs : shp b = (0, ci, fs)) (hcl : ∃ T N, vwCl[ci]? = some (y'.1.cls, T, N)) (hb : b < z)
    (hcat : a1.category = 1 ∧ a2.category = 1 ∧ a3.category = 1) (hq : 3 + 1 ≤ y'.2.2.1 ∧ z' ≤ z ∧ d' + 1 ≤ d ∧ kc' + kc2 ≤ kc ∧ ks' + ks2 ≤ ks) (hW : (rest.map fun v => v.category).sum ≤ 8) (hh : y.2.2.2.2.1 = [])
    (K : mt z' d' kc' ks' y' [.ref b, a1, a2, a3] (fun r μ' => go z d kc2 ks2 y Q X (pc + 3) ls (psh r rest) μ') X μ) : go z d kc ks y Q X pc ls (a3 :: a2 :: a1 :: .ref b :: rest) μ :=
  go_callV (as := [a1, a2, a3]) hd rfl hlk hm hs hcl hb rfl hq.1 (by intro v hv; simp only [List.mem_cons, List.not_mem_nil, or_false] at hv; obtain ⟨h1, h2, h3⟩ := hcat; rcases hv with rfl | rfl | rfl <;> assumption) hW hq.2.1 hq.2.2.1 hq.2.2.2.1 hq.2.2.2.2 hh K
theorem go_callS3 {z' d' kc' ks' kc2 ks2 idx : Nat} {y' : MI} {a1 a2 a3 : Value} {rest : List Value} (hd : decode y.2.1 pc = .ok (.invokestatic idx, 3)) (hlk : Cond.methodLink y.1.cls idx y'.1 ∈ aw) (hm : mokS y' 3)
    (hcat : a1.category = 1 ∧ a2.category = 1 ∧ a3.category = 1) (hq : 3 ≤ y'.2.2.1 ∧ z' ≤ z ∧ d' + 1 ≤ d ∧ kc' + kc2 ≤ kc ∧ ks' + ks2 ≤ ks) (hW : (rest.map fun v => v.category).sum ≤ 8) (hh : y.2.2.2.2.1 = [])
    (K : mt z' d' kc' ks' y' [a1, a2, a3] (fun r μ' => go z d kc2 ks2 y Q X (pc + 3) ls (psh r rest) μ') X μ) : go z d kc ks y Q X pc ls (a3 :: a2 :: a1 :: rest) μ :=
  go_callS (as := [a1, a2, a3]) hd rfl hlk hm rfl hq.1 (by intro v hv; simp only [List.mem_cons, List.not_mem_nil, or_false] at hv; obtain ⟨h1, h2, h3⟩ := hcat; rcases hv with rfl | rfl | rfl <;> assumption) hW hq.2.1 hq.2.2.1 hq.2.2.2.1 hq.2.2.2.2 hh K
theorem go_callV4 {z' d' kc' ks' kc2 ks2 b idx ci : Nat} {y' : MI} {a1 a2 a3 a4 : Value} {rest : List Value} {fs : List (Option Nat)} (hd : decode y.2.1 pc = .ok (.invokevirtual idx, 3)) (hlk : Cond.methodLink y.1.cls idx y'.1 ∈ aw) (hm : mokV y' 4) (hs : shp b = (0, ci, fs)) (hcl : ∃ T N, vwCl[ci]? = some (y'.1.cls, T, N)) (hb : b < z)
    (hcat : a1.category = 1 ∧ a2.category = 1 ∧ a3.category = 1 ∧ a4.category = 1) (hq : 4 + 1 ≤ y'.2.2.1 ∧ z' ≤ z ∧ d' + 1 ≤ d ∧ kc' + kc2 ≤ kc ∧ ks' + ks2 ≤ ks) (hW : (rest.map fun v => v.category).sum ≤ 8) (hh : y.2.2.2.2.1 = [])
    (K : mt z' d' kc' ks' y' [.ref b, a1, a2, a3, a4] (fun r μ' => go z d kc2 ks2 y Q X (pc + 3) ls (psh r rest) μ') X μ) : go z d kc ks y Q X pc ls (a4 :: a3 :: a2 :: a1 :: .ref b :: rest) μ :=
  go_callV (as := [a1, a2, a3, a4]) hd rfl hlk hm hs hcl hb rfl hq.1 (by intro v hv; simp only [List.mem_cons, List.not_mem_nil, or_false] at hv; obtain ⟨h1, h2, h3, h4⟩ := hcat; rcases hv with rfl | rfl | rfl | rfl <;> assumption) hW hq.2.1 hq.2.2.1 hq.2.2.2.1 hq.2.2.2.2 hh K
theorem go_callS4 {z' d' kc' ks' kc2 ks2 idx : Nat} {y' : MI} {a1 a2 a3 a4 : Value} {rest : List Value} (hd : decode y.2.1 pc = .ok (.invokestatic idx, 3)) (hlk : Cond.methodLink y.1.cls idx y'.1 ∈ aw) (hm : mokS y' 4)
    (hcat : a1.category = 1 ∧ a2.category = 1 ∧ a3.category = 1 ∧ a4.category = 1) (hq : 4 ≤ y'.2.2.1 ∧ z' ≤ z ∧ d' + 1 ≤ d ∧ kc' + kc2 ≤ kc ∧ ks' + ks2 ≤ ks) (hW : (rest.map fun v => v.category).sum ≤ 8) (hh : y.2.2.2.2.1 = [])
    (K : mt z' d' kc' ks' y' [a1, a2, a3, a4] (fun r μ' => go z d kc2 ks2 y Q X (pc + 3) ls (psh r rest) μ') X μ) : go z d kc ks y Q X pc ls (a4 :: a3 :: a2 :: a1 :: rest) μ :=
  go_callS (as := [a1, a2, a3, a4]) hd rfl hlk hm rfl hq.1 (by intro v hv; simp only [List.mem_cons, List.not_mem_nil, or_false] at hv; obtain ⟨h1, h2, h3, h4⟩ := hcat; rcases hv with rfl | rfl | rfl | rfl <;> assumption) hW hq.2.1 hq.2.2.1 hq.2.2.2.1 hq.2.2.2.2 hh K
theorem go_callV5 {z' d' kc' ks' kc2 ks2 b idx ci : Nat} {y' : MI} {a1 a2 a3 a4 a5 : Value} {rest : List Value} {fs : List (Option Nat)} (hd : decode y.2.1 pc = .ok (.invokevirtual idx, 3)) (hlk : Cond.methodLink y.1.cls idx y'.1 ∈ aw) (hm : mokV y' 5) (hs : shp b = (0, ci, fs)) (hcl : ∃ T N, vwCl[ci]? = some (y'.1.cls, T, N)) (hb : b < z)
    (hcat : a1.category = 1 ∧ a2.category = 1 ∧ a3.category = 1 ∧ a4.category = 1 ∧ a5.category = 1) (hq : 5 + 1 ≤ y'.2.2.1 ∧ z' ≤ z ∧ d' + 1 ≤ d ∧ kc' + kc2 ≤ kc ∧ ks' + ks2 ≤ ks) (hW : (rest.map fun v => v.category).sum ≤ 8) (hh : y.2.2.2.2.1 = [])
    (K : mt z' d' kc' ks' y' [.ref b, a1, a2, a3, a4, a5] (fun r μ' => go z d kc2 ks2 y Q X (pc + 3) ls (psh r rest) μ') X μ) : go z d kc ks y Q X pc ls (a5 :: a4 :: a3 :: a2 :: a1 :: .ref b :: rest) μ :=
  go_callV (as := [a1, a2, a3, a4, a5]) hd rfl hlk hm hs hcl hb rfl hq.1 (by intro v hv; simp only [List.mem_cons, List.not_mem_nil, or_false] at hv; obtain ⟨h1, h2, h3, h4, h5⟩ := hcat; rcases hv with rfl | rfl | rfl | rfl | rfl <;> assumption) hW hq.2.1 hq.2.2.1 hq.2.2.2.1 hq.2.2.2.2 hh K
theorem go_callS5 {z' d' kc' ks' kc2 ks2 idx : Nat} {y' : MI} {a1 a2 a3 a4 a5 : Value} {rest : List Value} (hd : decode y.2.1 pc = .ok (.invokestatic idx, 3)) (hlk : Cond.methodLink y.1.cls idx y'.1 ∈ aw) (hm : mokS y' 5)
    (hcat : a1.category = 1 ∧ a2.category = 1 ∧ a3.category = 1 ∧ a4.category = 1 ∧ a5.category = 1) (hq : 5 ≤ y'.2.2.1 ∧ z' ≤ z ∧ d' + 1 ≤ d ∧ kc' + kc2 ≤ kc ∧ ks' + ks2 ≤ ks) (hW : (rest.map fun v => v.category).sum ≤ 8) (hh : y.2.2.2.2.1 = [])
    (K : mt z' d' kc' ks' y' [a1, a2, a3, a4, a5] (fun r μ' => go z d kc2 ks2 y Q X (pc + 3) ls (psh r rest) μ') X μ) : go z d kc ks y Q X pc ls (a5 :: a4 :: a3 :: a2 :: a1 :: rest) μ :=
  go_callS (as := [a1, a2, a3, a4, a5]) hd rfl hlk hm rfl hq.1 (by intro v hv; simp only [List.mem_cons, List.not_mem_nil, or_false] at hv; obtain ⟨h1, h2, h3, h4, h5⟩ := hcat; rcases hv with rfl | rfl | rfl | rfl | rfl <;> assumption) hW hq.2.1 hq.2.2.1 hq.2.2.2.1 hq.2.2.2.2 hh K
theorem go_callS6 {z' d' kc' ks' kc2 ks2 idx : Nat} {y' : MI} {a1 a2 a3 a4 a5 a6 : Value} {rest : List Value} (hd : decode y.2.1 pc = .ok (.invokestatic idx, 3)) (hlk : Cond.methodLink y.1.cls idx y'.1 ∈ aw) (hm : mokS y' 6)
    (hcat : a1.category = 1 ∧ a2.category = 1 ∧ a3.category = 1 ∧ a4.category = 1 ∧ a5.category = 1 ∧ a6.category = 1) (hq : 6 ≤ y'.2.2.1 ∧ z' ≤ z ∧ d' + 1 ≤ d ∧ kc' + kc2 ≤ kc ∧ ks' + ks2 ≤ ks) (hW : (rest.map fun v => v.category).sum ≤ 8) (hh : y.2.2.2.2.1 = [])
    (K : mt z' d' kc' ks' y' [a1, a2, a3, a4, a5, a6] (fun r μ' => go z d kc2 ks2 y Q X (pc + 3) ls (psh r rest) μ') X μ) : go z d kc ks y Q X pc ls (a6 :: a5 :: a4 :: a3 :: a2 :: a1 :: rest) μ :=
  go_callS (as := [a1, a2, a3, a4, a5, a6]) hd rfl hlk hm rfl hq.1 (by intro v hv; simp only [List.mem_cons, List.not_mem_nil, or_false] at hv; obtain ⟨h1, h2, h3, h4, h5, h6⟩ := hcat; rcases hv with rfl | rfl | rfl | rfl | rfl | rfl <;> assumption) hW hq.2.1 hq.2.2.1 hq.2.2.2.1 hq.2.2.2.2 hh K
theorem go_callS7 {z' d' kc' ks' kc2 ks2 idx : Nat} {y' : MI} {a1 a2 a3 a4 a5 a6 a7 : Value} {rest : List Value} (hd : decode y.2.1 pc = .ok (.invokestatic idx, 3)) (hlk : Cond.methodLink y.1.cls idx y'.1 ∈ aw) (hm : mokS y' 7)
    (hcat : a1.category = 1 ∧ a2.category = 1 ∧ a3.category = 1 ∧ a4.category = 1 ∧ a5.category = 1 ∧ a6.category = 1 ∧ a7.category = 1) (hq : 7 ≤ y'.2.2.1 ∧ z' ≤ z ∧ d' + 1 ≤ d ∧ kc' + kc2 ≤ kc ∧ ks' + ks2 ≤ ks) (hW : (rest.map fun v => v.category).sum ≤ 8) (hh : y.2.2.2.2.1 = [])
    (K : mt z' d' kc' ks' y' [a1, a2, a3, a4, a5, a6, a7] (fun r μ' => go z d kc2 ks2 y Q X (pc + 3) ls (psh r rest) μ') X μ) : go z d kc ks y Q X pc ls (a7 :: a6 :: a5 :: a4 :: a3 :: a2 :: a1 :: rest) μ :=
  go_callS (as := [a1, a2, a3, a4, a5, a6, a7]) hd rfl hlk hm rfl hq.1 (by intro v hv; simp only [List.mem_cons, List.not_mem_nil, or_false] at hv; obtain ⟨h1, h2, h3, h4, h5, h6, h7⟩ := hcat; rcases hv with rfl | rfl | rfl | rfl | rfl | rfl | rfl <;> assumption) hW hq.2.1 hq.2.2.1 hq.2.2.2.1 hq.2.2.2.2 hh K
end CallN
/-! a truth as a number; ends -/
def bI (p : Prop) [Decidable p] : Int := if p then 1 else 0
theorem bI_t {p : Prop} [Decidable p] (h : p) : bI p = 1 := if_pos h
theorem bI_f {p : Prop} [Decidable p] (h : ¬ p) : bI p = 0 := if_neg h
theorem bI_01 (p : Prop) [Decidable p] : bI p = 0 ∨ bI p = 1 := by unfold bI; split <;> omega
theorem ret_i {Q : Option Value → Mem → Prop} {μ : Mem} {a b : Int} (K : Q (some (.int (iI b))) μ) (h : a = b) : Q (some (.int (iI a))) μ := h ▸ K
theorem ret_m {Q : Option Value → Mem → Prop} {μ μ' : Mem} {a b : Int} (K : Q (some (.int (iI b))) μ) (h : a = b) (hm : μ' = μ) : Q (some (.int (iI a))) μ' := by subst h; subst hm; exact K
theorem ret_v {Q : Option Value → Mem → Prop} {μ μ' : Mem} (K : Q none μ) (hm : μ' = μ) : Q none μ' := by subst hm; exact K
/-! THE CHAMBER's part of a memory -/
def put (c : Nat) (σ μ : Mem) : Mem := fun b j => if c ≤ b ∧ b < c + 21 then σ (b - c) j else μ b j
theorem put_r {c r j : Nat} {σ μ : Mem} (h : r < 21) : put c σ μ (c + r) j = σ r j := by
  unfold put
  rw [if_pos ⟨by omega, by omega⟩, Nat.add_sub_cancel_left]
theorem put_0 {c j : Nat} {σ μ : Mem} : put c σ μ c j = σ 0 j := put_r (r := 0) (by decide)
theorem put_o {c b j : Nat} {σ μ : Mem} (h : b < c ∨ c + 21 ≤ b) : put c σ μ b j = μ b j := by
  unfold put
  rw [if_neg (by omega)]
theorem put_w {c r i : Nat} {σ μ : Mem} {v : Int} (h : r < 21) : wr (put c σ μ) (c + r) i v = put c (wr σ r i v) μ := by
  funext b j
  unfold wr put
  by_cases h1 : c ≤ b ∧ b < c + 21
  · rw [if_pos h1, if_pos h1]
    by_cases h2 : b = c + r ∧ j = i
    · rw [if_pos h2]
      show v = if b - c = r ∧ j = i then v else σ (b - c) j
      rw [if_pos ⟨by omega, h2.2⟩]
    · rw [if_neg h2]
      show σ (b - c) j = if b - c = r ∧ j = i then v else σ (b - c) j
      rw [if_neg (by omega)]
  · rw [if_neg h1, if_neg h1, if_neg (by omega)]
theorem put_w0 {c i : Nat} {σ μ : Mem} {v : Int} : wr (put c σ μ) c i v = put c (wr σ 0 i v) μ := put_w (r := 0) (by decide)
theorem put_v (c : Nat) (μ : Mem) : put c (fun r j => μ (c + r) j) μ = μ := by
  funext b j
  unfold put
  by_cases h : c ≤ b ∧ b < c + 21
  · rw [if_pos h]
    show μ (c + (b - c)) j = μ b j
    rw [show c + (b - c) = b by omega]
  · rw [if_neg h]
theorem put_s {c b j : Nat} {σ μ : Mem} (hc : is_ch c) (h : b < 20) : put c σ μ b j = μ b j := put_o (by have := ch_lt hc; omega)
def is_su (c : Nat) : Prop := c = 10 ∨ c = 15
theorem su_sh {c : Nat} (h : is_su c) : ∀ r, r < 5 → shp (c + r) = su_shp c r := by
  rcases h with h | h <;> subst h <;> decide
theorem su_z {c r : Nat} (h : is_su c) (hr : r < 5) : c + r < 276 := by rcases h with h | h <;> omega
