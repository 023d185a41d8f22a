/-! rules over a memory that is a chamber's part put into another -/
def wp (v : Int) : Int := (iI v).toInt
theorem wp_rng (v : Int) : rng (wp v) := rng_t _
theorem wp_of {v : Int} (h : rng v) : wp v = v := iI_t h
theorem iI_wp (v : Int) : iI (wp v) = iI v := iI_as _
/-- the setup's part -/
def su (μ : Mem) : Mem := fun r j => if r < 5 then μ (10 + r) j else 0
theorem su_e {μ : Mem} {r j : Nat} (h : r < 5) : su μ r j = μ (10 + r) j := if_pos h
section CMode
variable {z d kc ks : Nat} {y : MI} {Q : Option Value → Mem → Prop} {X : String → Mem → Prop} {pc : Nat} {ls st : List Value} {μ σ : Mem} {c r : Nat}
theorem go_putW {idx ci j a : Nat} {v : Int} {fs : List (Option Nat)} (hd : decode y.2.1 pc = .ok (.putfield idx, 3)) (hf : fpk y.1.cls idx ci j .int) (hs : shp a = (0, ci, fs)) (hj : fs[j]? = some none) (ha : a < z) (K : go z d kc ks y Q X (pc + 3) ls st (wr μ a j (wp v))) : go z d kc ks y Q X pc ls (.int (iI v) :: .ref a :: st) μ := by
  rw [← iI_wp v]
  exact go_putI hd hf hs hj ha (wp_rng v) K
theorem go_iastoreW {a n k : Nat} {i v : Int} {fs : List (Option Nat)} (hd : decode y.2.1 pc = .ok (.iastore, 1)) (hs : shp a = (1, n, fs)) (ha : a < z) (hi : i = (k : Int)) (hk : k < n) (hn : n < 4000) (K : go z d kc ks y Q X (pc + 1) ls st (wr μ a k (wp v))) : go z d kc ks y Q X pc ls (.int (iI v) :: .int (iI i) :: .ref a :: st) μ := by
  rw [← iI_wp v]
  exact go_iastore hd hs ha hi hk hn (wp_rng v) K
theorem go_cget {idx ci j : Nat} {fs : List (Option Nat)} (hd : decode y.2.1 pc = .ok (.getfield idx, 3)) (hf : flk y.1.cls idx ci j) (hc : is_ch c) (hr : r < 21) (hs : ch_shp c r = (0, ci, fs)) (hj : fs[j]? = some none) (hz : 276 ≤ z) (K : rng (σ r j) → go z d kc ks y Q X (pc + 3) ls (.int (iI (σ r j)) :: st) (put c σ μ)) : go z d kc ks y Q X pc ls (.ref (c + r) :: st) (put c σ μ) :=
  go_getI hd hf ((ch_sh hc r hr).trans hs) hj (by have := ch_z hc hr; omega) (by rw [put_r hr]; exact K)
theorem go_cput {idx ci j : Nat} {v : Int} {fs : List (Option Nat)} (hd : decode y.2.1 pc = .ok (.putfield idx, 3)) (hf : fpk y.1.cls idx ci j .int) (hc : is_ch c) (hr : r < 21) (hs : ch_shp c r = (0, ci, fs)) (hj : fs[j]? = some none) (hz : 276 ≤ z) (hv : rng v) (K : go z d kc ks y Q X (pc + 3) ls st (put c (wr σ r j v) μ)) : go z d kc ks y Q X pc ls (.int (iI v) :: .ref (c + r) :: st) (put c σ μ) :=
  go_putI hd hf ((ch_sh hc r hr).trans hs) hj (by have := ch_z hc hr; omega) hv (by rw [put_w hr]; exact K)
theorem go_cputW {idx ci j : Nat} {v : Int} {fs : List (Option Nat)} (hd : decode y.2.1 pc = .ok (.putfield idx, 3)) (hf : fpk y.1.cls idx ci j .int) (hc : is_ch c) (hr : r < 21) (hs : ch_shp c r = (0, ci, fs)) (hj : fs[j]? = some none) (hz : 276 ≤ z) (K : go z d kc ks y Q X (pc + 3) ls st (put c (wr σ r j (wp v)) μ)) : go z d kc ks y Q X pc ls (.int (iI v) :: .ref (c + r) :: st) (put c σ μ) :=
  go_putW hd hf ((ch_sh hc r hr).trans hs) hj (by have := ch_z hc hr; omega) (by rw [put_w hr]; exact K)
theorem go_cial {n k : Nat} {i : Int} {fs : List (Option Nat)} (hd : decode y.2.1 pc = .ok (.iaload, 1)) (hc : is_ch c) (hr : r < 21) (hs : ch_shp c r = (1, n, fs)) (hz : 276 ≤ z) (hi : i = (k : Int)) (hk : k < n) (hn : n < 4000) (K : rng (σ r k) → go z d kc ks y Q X (pc + 1) ls (.int (iI (σ r k)) :: st) (put c σ μ)) : go z d kc ks y Q X pc ls (.int (iI i) :: .ref (c + r) :: st) (put c σ μ) :=
  go_iaload hd ((ch_sh hc r hr).trans hs) (by have := ch_z hc hr; omega) hi hk hn (by rw [put_r hr]; exact K)
theorem go_cias {n k : Nat} {i v : Int} {fs : List (Option Nat)} (hd : decode y.2.1 pc = .ok (.iastore, 1)) (hc : is_ch c) (hr : r < 21) (hs : ch_shp c r = (1, n, fs)) (hz : 276 ≤ z) (hi : i = (k : Int)) (hk : k < n) (hn : n < 4000) (hv : rng v) (K : go z d kc ks y Q X (pc + 1) ls st (put c (wr σ r k v) μ)) : go z d kc ks y Q X pc ls (.int (iI v) :: .int (iI i) :: .ref (c + r) :: st) (put c σ μ) :=
  go_iastore hd ((ch_sh hc r hr).trans hs) (by have := ch_z hc hr; omega) hi hk hn hv (by rw [put_w hr]; exact K)
theorem go_ciasW {n k : Nat} {i v : Int} {fs : List (Option Nat)} (hd : decode y.2.1 pc = .ok (.iastore, 1)) (hc : is_ch c) (hr : r < 21) (hs : ch_shp c r = (1, n, fs)) (hz : 276 ≤ z) (hi : i = (k : Int)) (hk : k < n) (hn : n < 4000) (K : go z d kc ks y Q X (pc + 1) ls st (put c (wr σ r k (wp v)) μ)) : go z d kc ks y Q X pc ls (.int (iI v) :: .int (iI i) :: .ref (c + r) :: st) (put c σ μ) :=
  go_iastoreW hd ((ch_sh hc r hr).trans hs) (by have := ch_z hc hr; omega) hi hk hn (by rw [put_w hr]; exact K)
/-- the setup is read -/
theorem go_sget {idx ci j : Nat} {fs : List (Option Nat)} (hd : decode y.2.1 pc = .ok (.getfield idx, 3)) (hf : flk y.1.cls idx ci j) (hc : is_ch c) (hr : r < 5) (hs : su_shp 10 r = (0, ci, fs)) (hj : fs[j]? = some none) (hz : 276 ≤ z) (K : rng (su μ r j) → go z d kc ks y Q X (pc + 3) ls (.int (iI (su μ r j)) :: st) (put c σ μ)) : go z d kc ks y Q X pc ls (.ref (10 + r) :: st) (put c σ μ) :=
  go_getI hd hf ((su_sh (Or.inl rfl) r hr).trans hs) hj (by omega) (by rw [put_s hc (by omega), ← su_e (μ := μ) (r := r) (j := j) hr]; exact K)
theorem go_sial {n k : Nat} {i : Int} {fs : List (Option Nat)} (hd : decode y.2.1 pc = .ok (.iaload, 1)) (hc : is_ch c) (hr : r < 5) (hs : su_shp 10 r = (1, n, fs)) (hz : 276 ≤ z) (hi : i = (k : Int)) (hk : k < n) (hn : n < 4000) (K : rng (su μ r k) → go z d kc ks y Q X (pc + 1) ls (.int (iI (su μ r k)) :: st) (put c σ μ)) : go z d kc ks y Q X pc ls (.int (iI i) :: .ref (10 + r) :: st) (put c σ μ) :=
  go_iaload hd ((su_sh (Or.inl rfl) r hr).trans hs) (by omega) hi hk hn (by rw [put_s hc (by omega), ← su_e (μ := μ) (r := r) (j := k) hr]; exact K)
end CMode
/-- the part of a memory that lies from o on -/
def vw (o : Nat) (μ : Mem) : Mem := fun r j => μ (o + r) j
def cpr (t s : Mem) (r n : Nat) : Mem := fun b j => if b = r ∧ j < n then t b j else s b j
theorem ch_apart {c o : Nat} (hc : is_ch c) (ho : is_ch o) (h : o ≠ c) {r : Nat} (hr : r < 21) : o + r < c ∨ c + 21 ≤ o + r := by
  simp only [is_ch, ch_l, List.mem_cons, List.not_mem_nil, or_false] at hc ho
  omega
theorem put_cpy {c o r n : Nat} {σ μ : Mem} (hc : is_ch c) (ho : is_ch o) (h : o ≠ c) (hr : r < 21) : cpy (put c σ μ) (o + r) (c + r) n = put c (cpr (vw o μ) σ r n) μ := by
  funext b j
  have hb := ch_apart hc ho h hr
  unfold cpy
  by_cases h1 : b = c + r ∧ j < n
  · rw [if_pos h1, put_o hb, h1.1, put_r hr]
    unfold cpr vw
    rw [if_pos ⟨rfl, h1.2⟩]
  · rw [if_neg h1]
    unfold put
    by_cases h2 : c ≤ b ∧ b < c + 21
    · rw [if_pos h2, if_pos h2]
      unfold cpr
      rw [if_neg (by omega)]
    · rw [if_neg h2, if_neg h2]
section CCopy
variable {z d kc ks : Nat} {y : MI} {Q : Option Value → Mem → Prop} {X : String → Mem → Prop} {pc : Nat} {ls st : List Value} {μ σ : Mem} {c o r : Nat}
theorem go_ccopy {idx k : Nat} {n : Int} {n1 : Nat} {f1 : List (Option Nat)} (hd : decode y.2.1 pc = .ok (.invokestatic idx, 3)) (hlk : Cond.methodLink y.1.cls idx arraycopyName ∈ aw) (hc : is_ch c) (ho : is_ch o) (h : o ≠ c) (hr : r < 21) (hs : ∀ c, ch_shp c r = (1, n1, f1)) (hn : n = (k : Int)) (hk1 : k ≤ n1) (hk : k < 4000) (hz : 276 ≤ z) (hdd : 1 ≤ d) (hW : (st.map fun v => v.category).sum ≤ 8)
    (K : go z d kc ks y Q X (pc + 3) ls st (put c (cpr (vw o μ) σ r k) μ)) : go z d kc ks y Q X pc ls (.int (iI n) :: .int (iI 0) :: .ref (c + r) :: .int (iI 0) :: .ref (o + r) :: st) (put c σ μ) :=
  go_copy hd hlk ((ch_sh ho r hr).trans (hs o)) ((ch_sh hc r hr).trans (hs c)) (by have := ch_z ho hr; omega) (by have := ch_z hc hr; omega) hn hk1 hk1 hk hdd hW (by rw [put_cpy hc ho h hr]; exact K)
theorem go_oget {idx ci j : Nat} {fs : List (Option Nat)} (hd : decode y.2.1 pc = .ok (.getfield idx, 3)) (hf : flk y.1.cls idx ci j) (hc : is_ch c) (ho : is_ch o) (h : o ≠ c) (hr : r < 21) (hs : ch_shp o r = (0, ci, fs)) (hj : fs[j]? = some none) (hz : 276 ≤ z) (K : rng (vw o μ r j) → go z d kc ks y Q X (pc + 3) ls (.int (iI (vw o μ r j)) :: st) (put c σ μ)) : go z d kc ks y Q X pc ls (.ref (o + r) :: st) (put c σ μ) :=
  go_getI hd hf ((ch_sh ho r hr).trans hs) hj (by have := ch_z ho hr; omega) (by rw [put_o (ch_apart hc ho h hr)]; exact K)
end CCopy
/-! the top of the stack by another name; a chamber's part of any memory -/
section Modes
variable {z d kc ks : Nat} {y : MI} {Q : Option Value → Mem → Prop} {X : String → Mem → Prop} {pc : Nat} {ls st : List Value} {μ σ : Mem} {ν ρ : Nat → Int} {r : Nat}
theorem go_top {a b : Int} (h : a = b) (K : a = b → go z d kc ks y Q X pc ls (.int (iI b) :: st) μ) : go z d kc ks y Q X pc ls (.int (iI a) :: st) μ := by subst h; exact K rfl
theorem go_loc {i : Nat} {a b : Int} (h : a = b) (hi : ls[i]? = some (.int (iI a))) (K : go z d kc ks y Q X pc (ls.set i (.int (iI b))) st μ) : go z d kc ks y Q X pc ls st μ := by
  subst h
  have e : ls.set i (.int (iI a)) = ls := by
    apply List.ext_getElem?
    intro j
    by_cases g : j = i
    · subst g
      rw [List.getElem?_set_self (List.getElem?_eq_some_iff.mp hi).1, hi]
    · rw [List.getElem?_set_ne (Ne.symm g)]
  rw [e] at K
  exact K
theorem go_topI {a b : Int} (h : iI a = iI b) (K : go z d kc ks y Q X pc ls (.int (iI b) :: st) μ) : go z d kc ks y Q X pc ls (.int (iI a) :: st) μ := by rw [h]; exact K
theorem go_mem {μ' : Mem} (h : μ = μ') (K : go z d kc ks y Q X pc ls st μ') : go z d kc ks y Q X pc ls st μ := by subst h; exact K
theorem mt_mem {as : List Value} {μ' : Mem} (h : μ = μ') (K : mt z d kc ks y as Q X μ') : mt z d kc ks y as Q X μ := by subst h; exact K
theorem mt_put (c : Nat) {as : List Value} (K : mt z d kc ks y as Q X (put c (vw c μ) μ)) : mt z d kc ks y as Q X μ := mt_mem (put_v c μ).symm K
theorem ret_iI {a b : Int} {μ : Mem} (K : Q (some (.int (iI b))) μ) (h : iI a = iI b) : Q (some (.int (iI a))) μ := by rw [h]; exact K
/-! THE READER's part: its numbers ρ, the rest μ -/
def pr (ρ : Nat → Int) (μ : Mem) : Mem := fun b j => if b = 3 then ρ j else μ b j
theorem pr_r {j : Nat} : pr ρ μ 3 j = ρ j := if_pos rfl
theorem pr_o {b j : Nat} (h : b ≠ 3) : pr ρ μ b j = μ b j := if_neg h
theorem pr_v (μ : Mem) : pr (μ 3) μ = μ := by
  funext b j; unfold pr; split
  · rename_i h; rw [h]
  · rfl
def wv (ν : Nat → Int) (k : Nat) (v : Int) : Nat → Int := fun j => if j = k then v else ν j
theorem wv_s {k : Nat} {v : Int} : wv ν k v k = v := if_pos rfl
theorem wv_n {k j : Nat} {v : Int} (h : j ≠ k) : wv ν k v j = ν j := if_neg h
theorem pr_w {i : Nat} {v : Int} : wr (pr ρ μ) 3 i v = pr (wv ρ i v) μ := by
  funext b j; unfold wr pr wv
  by_cases h : b = 3
  · subst h; by_cases h2 : j = i <;> simp [h2]
  · simp [h]
theorem pr_wo {a i : Nat} {v : Int} (h : a ≠ 3) : wr (pr ρ μ) a i v = pr ρ (wr μ a i v) := by
  funext b j; unfold wr pr
  by_cases h1 : b = 3
  · subst h1; rw [if_neg (fun q => h q.1.symm), if_pos rfl, if_pos rfl]
  · rw [if_neg h1, if_neg h1]
theorem mt_pr {as : List Value} (K : mt z d kc ks y as Q X (pr (μ 3) μ)) : mt z d kc ks y as Q X μ := mt_mem (pr_v μ).symm K
theorem go_rget {idx ci j : Nat} {fs : List (Option Nat)} (hd : decode y.2.1 pc = .ok (.getfield idx, 3)) (hf : flk y.1.cls idx ci j) (hs : shp 3 = (0, ci, fs)) (hj : fs[j]? = some none) (hz : 3 < z) (K : rng (ρ j) → go z d kc ks y Q X (pc + 3) ls (.int (iI (ρ j)) :: st) (pr ρ μ)) : go z d kc ks y Q X pc ls (.ref 3 :: st) (pr ρ μ) :=
  go_getI hd hf hs hj hz (by rw [pr_r]; exact K)
theorem go_rput {idx ci j : Nat} {v : Int} {fs : List (Option Nat)} (hd : decode y.2.1 pc = .ok (.putfield idx, 3)) (hf : fpk y.1.cls idx ci j .int) (hs : shp 3 = (0, ci, fs)) (hj : fs[j]? = some none) (hz : 3 < z) (hv : rng v) (K : go z d kc ks y Q X (pc + 3) ls st (pr (wv ρ j v) μ)) : go z d kc ks y Q X pc ls (.int (iI v) :: .ref 3 :: st) (pr ρ μ) :=
  go_putI hd hf hs hj hz hv (by rw [pr_w]; exact K)
theorem go_tget {idx ci j a : Nat} {fs : List (Option Nat)} (hd : decode y.2.1 pc = .ok (.getfield idx, 3)) (hf : flk y.1.cls idx ci j) (hs : shp a = (0, ci, fs)) (hj : fs[j]? = some none) (ha : a < z) (h3 : a ≠ 3) (K : rng (μ a j) → go z d kc ks y Q X (pc + 3) ls (.int (iI (μ a j)) :: st) (pr ρ μ)) : go z d kc ks y Q X pc ls (.ref a :: st) (pr ρ μ) :=
  go_getI hd hf hs hj ha (by rw [pr_o h3]; exact K)
theorem go_tput {idx ci j a : Nat} {v : Int} {fs : List (Option Nat)} (hd : decode y.2.1 pc = .ok (.putfield idx, 3)) (hf : fpk y.1.cls idx ci j .int) (hs : shp a = (0, ci, fs)) (hj : fs[j]? = some none) (ha : a < z) (h3 : a ≠ 3) (hv : rng v) (K : go z d kc ks y Q X (pc + 3) ls st (pr ρ (wr μ a j v))) : go z d kc ks y Q X pc ls (.int (iI v) :: .ref a :: st) (pr ρ μ) :=
  go_putI hd hf hs hj ha hv (by rw [pr_wo h3]; exact K)
theorem go_tial {a n k : Nat} {i : Int} {fs : List (Option Nat)} (hd : decode y.2.1 pc = .ok (.iaload, 1)) (hs : shp a = (1, n, fs)) (ha : a < z) (h3 : a ≠ 3) (hi : i = (k : Int)) (hk : k < n) (hn : n < 4000) (K : rng (μ a k) → go z d kc ks y Q X (pc + 1) ls (.int (iI (μ a k)) :: st) (pr ρ μ)) : go z d kc ks y Q X pc ls (.int (iI i) :: .ref a :: st) (pr ρ μ) :=
  go_iaload hd hs ha hi hk hn (by rw [pr_o h3]; exact K)
theorem go_tias {a n k : Nat} {i v : Int} {fs : List (Option Nat)} (hd : decode y.2.1 pc = .ok (.iastore, 1)) (hs : shp a = (1, n, fs)) (ha : a < z) (h3 : a ≠ 3) (hi : i = (k : Int)) (hk : k < n) (hn : n < 4000) (hv : rng v) (K : go z d kc ks y Q X (pc + 1) ls st (pr ρ (wr μ a k v))) : go z d kc ks y Q X pc ls (.int (iI v) :: .int (iI i) :: .ref a :: st) (pr ρ μ) :=
  go_iastore hd hs ha hi hk hn hv (by rw [pr_wo h3]; exact K)
theorem go_tbal {a n k : Nat} {i : Int} {fs : List (Option Nat)} (hd : decode y.2.1 pc = .ok (.baload, 1)) (hs : shp a = (3, n, fs)) (ha : a < z) (h3 : a ≠ 3) (hi : i = (k : Int)) (hk : k < n) (hn : n < 4000) (K : rng (μ a k) → go z d kc ks y Q X (pc + 1) ls (.int (iI (μ a k)) :: st) (pr ρ μ)) : go z d kc ks y Q X pc ls (.int (iI i) :: .ref a :: st) (pr ρ μ) :=
  go_baload hd hs ha hi hk hn (by rw [pr_o h3]; exact K)
/-! numbers -/
theorem tdiv_iI {a b : Int} (ha : rng a) (hb : rng b) (h : 0 < b) : iI a / iI b = iI (a.tdiv b) := by
  apply Int32.toInt_inj.mp
  have hq : rng (a.tdiv b) := by
    have h1 : (a.tdiv b).natAbs ≤ a.natAbs := Int.natAbs_tdiv_le_natAbs a b
    have h3 : a.tdiv b ≤ 0 ∨ 0 ≤ a := by
      by_cases q : 0 ≤ a
      · exact Or.inr q
      · have := Int.tdiv_nonneg (a := -a) (b := b) (by omega) (by omega)
        rw [Int.neg_tdiv] at this
        exact Or.inl (by omega)
    constructor
    · omega
    · omega
  rw [Int32.toInt_div_of_ne_right _ _ (by
    intro e
    have := congrArg Int32.toInt e
    rw [iI_t hb] at this
    have h2 : (-1 : Int32).toInt = -1 := by decide
    omega), iI_t ha, iI_t hb, iI_t hq]
theorem go_idiv {a b : Int} (hd : decode y.2.1 pc = .ok (.idiv, 1)) (ha : rng a) (hb : rng b) (h : 0 < b) (K : go z d kc ks y Q X (pc + 1) ls (.int (iI (a.tdiv b)) :: st) μ) : go z d kc ks y Q X pc ls (.int (iI b) :: .int (iI a) :: st) μ := by
  intro p l e R s m args below meth c D cy X0 mc ms nn ad hc H locs cells slots lsA dv hw hS hl h1 h2
  refine lv_idiv hc.1 hc.2.1 hd (fun e => ?_) ?_
  · have := (iI_eq hb rng0).mp e
    omega
  · rw [tdiv_iI ha hb h]
    exact go_use K hc hw hS hl h1 h2
theorem go_irem {a b : Int} (hd : decode y.2.1 pc = .ok (.irem, 1)) (ha : rng a) (hb : rng b) (h : 0 < b) (K : go z d kc ks y Q X (pc + 1) ls (.int (iI (a - a.tdiv b * b)) :: st) μ) : go z d kc ks y Q X pc ls (.int (iI b) :: .int (iI a) :: st) μ := by
  intro p l e R s m args below meth c D cy X0 mc ms nn ad hc H locs cells slots lsA dv hw hS hl h1 h2
  refine lv_irem hc.1 hc.2.1 hd (fun e => ?_) ?_
  · have := (iI_eq hb rng0).mp e
    omega
  · rw [tdiv_iI ha hb h, iI_mul, iI_sub]
    exact go_use K hc hw hS hl h1 h2
theorem go_tbIn {dflt lo hi off : Int} {offs : Array Int} {len tgt : Nat} {a : Int} (hd : decode y.2.1 pc = .ok (.tableswitch dflt lo hi offs, len)) (ha : rng a) (h1 : lo ≤ a) (h2 : a ≤ hi) (ho : offs[(a - lo).toNat]? = some off) (ht : (pc : Int) + off = (tgt : Int)) (K : go z d kc ks y Q X tgt ls st μ) : go z d kc ks y Q X pc ls (.int (iI a) :: st) μ := by
  intro p l e R s m args below meth c D cy X0 mc ms nn ad hc H locs cells slots lsA dv hw hS hl h3 h4
  exact lv_tableIn hc.1 hc.2.1 hd (by rw [iI_t ha]; omega) (by rw [iI_t ha]; omega) (by rw [iI_t ha]; exact ho) ht (go_use K hc hw hS hl h3 h4)
theorem go_tbOut {dflt lo hi : Int} {offs : Array Int} {len tgt : Nat} {a : Int} (hd : decode y.2.1 pc = .ok (.tableswitch dflt lo hi offs, len)) (ha : rng a) (h1 : a < lo ∨ hi < a) (ht : (pc : Int) + dflt = (tgt : Int)) (K : go z d kc ks y Q X tgt ls st μ) : go z d kc ks y Q X pc ls (.int (iI a) :: st) μ := by
  intro p l e R s m args below meth c D cy X0 mc ms nn ad hc H locs cells slots lsA dv hw hS hl h3 h4
  exact lv_tableOut hc.1 hc.2.1 hd (by rw [iI_t ha]; exact h1) ht (go_use K hc hw hS hl h3 h4)
end Modes
