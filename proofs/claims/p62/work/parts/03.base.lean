/-! INTS: a machine int is iI of a number -/
def iI (z : Int) : Int32 := Int32.ofInt z
abbrev rng (z : Int) : Prop := -2147483648 ≤ z ∧ z < 2147483648
theorem iI_t {z : Int} (h : rng z) : (iI z).toInt = z := Int32.toInt_ofInt_of_le h.1 h.2
theorem iI_add (a b : Int) : iI a + iI b = iI (a + b) := (Int32.ofInt_add a b).symm
theorem iI_sub (a b : Int) : iI a - iI b = iI (a - b) := (Int32.ofInt_sub a b).symm
theorem iI_mul (a b : Int) : iI a * iI b = iI (a * b) := (Int32.ofInt_mul a b).symm
theorem iI_neg (a : Int) : -iI a = iI (-a) := (Int32.ofInt_neg a).symm
theorem iI_lt {a b : Int} (ha : rng a) (hb : rng b) : iI a < iI b ↔ a < b := by rw [Int32.lt_iff_toInt_lt, iI_t ha, iI_t hb]
theorem iI_le {a b : Int} (ha : rng a) (hb : rng b) : iI a ≤ iI b ↔ a ≤ b := by rw [Int32.le_iff_toInt_le, iI_t ha, iI_t hb]
theorem iI_eq {a b : Int} (ha : rng a) (hb : rng b) : iI a = iI b ↔ a = b := ⟨fun h => by rw [← iI_t ha, ← iI_t hb, h], fun h => by rw [h]⟩
theorem iI_as (x : Int32) : iI x.toInt = x := Int32.ofInt_toInt x
theorem rng_t (x : Int32) : rng x.toInt := ⟨Int32.le_toInt x, Int32.toInt_lt x⟩
theorem iI_0 : iI 0 = 0 := rfl
theorem rng0 : rng 0 := ⟨by decide, by decide⟩
theorem iI_clamp {k : Nat} (h : k < 2147483648) : (iI (k : Int)).toNatClampNeg = k := by
  have h1 : (iI (k : Int)).toInt = (k : Int) := iI_t ⟨by omega, by omega⟩
  show (iI (k : Int)).toInt.toNat = k
  rw [h1]; rfl
theorem iI_in {k n : Nat} (h : k < n) (hn : n < 2147483648) : vp_in (iI (k : Int)) n := by
  rw [vp_in_iff, iI_t ⟨by omega, by omega⟩]
  omega
/-! MEMORY -/
abbrev Mem : Type := Nat → Nat → Int
def wr (μ : Mem) (a i : Nat) (v : Int) : Mem := fun b j => if b = a ∧ j = i then v else μ b j
theorem wr_s (μ : Mem) (a i : Nat) (v : Int) : wr μ a i v a i = v := if_pos ⟨rfl, rfl⟩
theorem wr_n {μ : Mem} {a i b j : Nat} {v : Int} (h : ¬ (b = a ∧ j = i)) : wr μ a i v b j = μ b j := if_neg h
theorem wr_na {μ : Mem} {a i b j : Nat} {v : Int} (h : b ≠ a) : wr μ a i v b j = μ b j := if_neg (fun q => h q.1)
theorem wr_ni {μ : Mem} {a i b j : Nat} {v : Int} (h : j ≠ i) : wr μ a i v b j = μ b j := if_neg (fun q => h q.2)
theorem wr_rng {μ : Mem} (h : ∀ a i, rng (μ a i)) {a i : Nat} {v : Int} (hv : rng v) : ∀ b j, rng (wr μ a i v b j) := by
  intro b j
  unfold wr
  split
  · exact hv
  · exact h b j
/-! SHAPE: (kind, class or length, references); kind 0 an object, 1 int, 2 boolean, 3 byte, 4 Chamber, 5 long, 6 double rows -/
abbrev Shp : Type := Nat × Nat × List (Option Nat)
def ch_shp (c r : Nat) : Shp := match r with
  | 0 => (0, 5, [some 10, some (c + 1), some (c + 5), some (c + 11), some (c + 15), none, none, none, none, none, none])
  | 1 => (0, 7, [some (c + 2), some (c + 3), some (c + 4)])
  | 2 => (1, 12, [])
  | 3 => (1, 12, [])
  | 4 => (1, 12, [])
  | 5 => (0, 8, [none, some (c + 6), some (c + 7), some (c + 8), some (c + 9), some (c + 10)])
  | 6 => (1, 16, [])
  | 7 => (1, 16, [])
  | 8 => (1, 16, [])
  | 9 => (1, 16, [])
  | 10 => (1, 192, [])
  | 11 => (0, 9, [none, some (c + 12), some (c + 13), some (c + 14)])
  | 12 => (1, 12, [])
  | 13 => (1, 12, [])
  | 14 => (1, 12, [])
  | 15 => (0, 4, [some (c + 16), some (c + 17), some (c + 18), some (c + 19), some (c + 20)])
  | _ => (1, 4, [])
def su_shp (c r : Nat) : Shp := match r with
  | 0 => (0, 11, [none, none, none, none, none, none, none, none, some (c + 1), some (c + 2), some (c + 3), some (c + 4)])
  | _ => (1, 12, [])
def lo_shp (k : Nat) : Shp := match k with
  | 0 => (0, 14, [some 1, some 3, some 4, some 10, some 15, some 20, some 41, some 62, some 232, some 275, some 5005])
  | 1 => (0, 12, [some 2, none])
  | 2 => (3, 700, [])
  | 3 => (0, 13, [some 1, none, none, none, none, none])
  | 4 => (0, 10, [some 5, some 6, some 7, some 8, some 9, none, none, none])
  | _ => (1, 30, [])
/-- Own: its numbers chairs, mirrors, time, reach, drying, required, quorum, minute, members, motions, ranking, tips, votes, rebuttals, sharpened, first, ended; rows 1 weight, 2 place, 3 purse, 4 razor, 5 started, 6 proposer, 7 lather, 8 state, 9 latest, 10 lean, 11 speaker, 12 about, 13 left, 14 list, 15 isFor, 16 isRebutted -/
def own_shp (c r : Nat) : Shp := match r with
  | 0 => (0, 15, [none, none, none, none, none, none, none, none, none, none, none, none, none, none, none, none, none, some (c + 1), some (c + 2), some (c + 3), some (c + 4), some (c + 5), some (c + 6), some (c + 7), some (c + 8), some (c + 9), some (c + 10), some (c + 11), some (c + 12), some (c + 13), some (c + 14), some (c + 15), some (c + 16)])
  | 1 => (1, 12, [])
  | 2 => (1, 12, [])
  | 3 => (1, 12, [])
  | 4 => (1, 12, [])
  | 5 => (1, 12, [])
  | 6 => (1, 16, [])
  | 7 => (1, 16, [])
  | 8 => (1, 16, [])
  | 9 => (1, 16, [])
  | 10 => (1, 192, [])
  | 14 => (1, 13, [])
  | 15 => (2, 4, [])
  | 16 => (2, 4, [])
  | _ => (1, 4, [])
def shp (k : Nat) : Shp :=
  if k < 10 then lo_shp k
  else if k < 15 then su_shp 10 (k - 10)
  else if k < 20 then su_shp 15 (k - 15)
  else if k < 41 then ch_shp 20 (k - 20)
  else if k < 62 then ch_shp 41 (k - 41)
  else if k = 62 then (0, 6, [some 63, none, none])
  else if k = 63 then (4, 8, [some 64, some 85, some 106, some 127, some 148, some 169, some 190, some 211])
  else if k < 85 then ch_shp 64 (k - 64)
  else if k < 106 then ch_shp 85 (k - 85)
  else if k < 127 then ch_shp 106 (k - 106)
  else if k < 148 then ch_shp 127 (k - 127)
  else if k < 169 then ch_shp 148 (k - 148)
  else if k < 190 then ch_shp 169 (k - 169)
  else if k < 211 then ch_shp 190 (k - 190)
  else if k < 232 then ch_shp 211 (k - 211)
  else if k = 232 then (4, 2, [some 233, some 254])
  else if k < 254 then ch_shp 233 (k - 233)
  else if k < 275 then ch_shp 254 (k - 254)
  else if k = 275 then (2, 2, [])
  else if k < 293 then own_shp 276 (k - 276)
  else if k < 310 then own_shp 293 (k - 293)
  else (1, 12, [])
/-- where the chambers lie -/
def ch_l : List Nat := [20, 41, 64, 85, 106, 127, 148, 169, 190, 211, 233, 254]
def is_ch (c : Nat) : Prop := c ∈ ch_l
theorem ch_lt {c : Nat} (h : is_ch c) : 20 ≤ c ∧ c + 21 ≤ 275 := by
  simp only [is_ch, ch_l, List.mem_cons, List.not_mem_nil, or_false] at h
  omega
/-- where the two Owns lie -/
def is_ow (c : Nat) : Prop := c = 276 ∨ c = 293
theorem ow_sh {c : Nat} (h : is_ow c) : ∀ r, r < 17 → shp (c + r) = own_shp c r := by
  have k1 : ∀ r, r < 17 → shp (276 + r) = own_shp 276 r := by decide +kernel
  have k2 : ∀ r, r < 17 → shp (293 + r) = own_shp 293 r := by decide +kernel
  rcases h with h | h <;> subst h
  · exact k1
  · exact k2
theorem ch_sh {c : Nat} (h : is_ch c) : ∀ r, r < 21 → shp (c + r) = ch_shp c r := by
  have key : ∀ c ∈ ch_l, ∀ r, r < 21 → shp (c + r) = ch_shp c r := by decide +kernel
  exact key c h
/-! THE CELLS of a memory -/
def flv (ad : Nat → Nat) (μ : Mem) (k : Nat) : Nat → List (Option Nat) → List Value
  | _, [] => []
  | i, none :: r => .int (iI (μ k i)) :: flv ad μ k (i + 1) r
  | i, some q :: r => .ref (ad q) :: flv ad μ k (i + 1) r
theorem flv_get (ad : Nat → Nat) (μ : Mem) (k : Nat) : ∀ (fs : List (Option Nat)) (i j : Nat), (flv ad μ k i fs)[j]? = (fs[j]?).map (fun o => match o with | none => .int (iI (μ k (i + j))) | some q => .ref (ad q))
  | [], i, j => by simp [flv]
  | none :: r, i, 0 => by simp [flv]
  | some q :: r, i, 0 => by simp [flv]
  | none :: r, i, j + 1 => by
    have h := flv_get ad μ k r (i + 1) j
    simp only [flv, List.getElem?_cons_succ, h]
    rw [show i + 1 + j = i + (j + 1) by omega]
  | some q :: r, i, j + 1 => by
    have h := flv_get ad μ k r (i + 1) j
    simp only [flv, List.getElem?_cons_succ, h]
    rw [show i + 1 + j = i + (j + 1) by omega]
theorem flv_off (ad : Nat → Nat) (μ μ' : Mem) (k : Nat) : ∀ (fs : List (Option Nat)) (i : Nat), (∀ j, i ≤ j → μ' k j = μ k j) → flv ad μ' k i fs = flv ad μ k i fs
  | [], i, h => rfl
  | none :: r, i, h => by
    simp only [flv]
    rw [h i (Nat.le_refl _), flv_off ad μ μ' k r (i + 1) (fun j hj => h j (by omega))]
  | some q :: r, i, h => by
    simp only [flv]
    rw [flv_off ad μ μ' k r (i + 1) (fun j hj => h j (by omega))]
theorem flv_set (ad : Nat → Nat) (μ : Mem) (k : Nat) (v : Int) : ∀ (fs : List (Option Nat)) (i j : Nat), fs[j]? = some none → (flv ad μ k i fs).set j (.int (iI v)) = flv ad (wr μ k (i + j) v) k i fs
  | [], i, j, h => by simp at h
  | none :: r, i, 0, h => by
    simp only [flv, List.set_cons_zero, Nat.add_zero, wr_s]
    rw [flv_off ad μ (wr μ k i v) k r (i + 1) (fun j hj => wr_ni (by omega))]
  | some q :: r, i, 0, h => by simp at h
  | none :: r, i, j + 1, h => by
    simp only [flv, List.set_cons_succ]
    rw [flv_set ad μ k v r (i + 1) j (by simpa using h), wr_ni (by omega), show i + 1 + j = i + (j + 1) by omega]
  | some q :: r, i, j + 1, h => by
    simp only [flv, List.set_cons_succ]
    rw [flv_set ad μ k v r (i + 1) j (by simpa using h), show i + 1 + j = i + (j + 1) by omega]
theorem flv_len (ad : Nat → Nat) (μ : Mem) (k : Nat) : ∀ (fs : List (Option Nat)) (i : Nat), (flv ad μ k i fs).length = fs.length
  | [], i => rfl
  | none :: r, i => by simp only [flv, List.length_cons, flv_len ad μ k r (i + 1)]
  | some q :: r, i => by simp only [flv, List.length_cons, flv_len ad μ k r (i + 1)]
/-- the 64 bits of which hi, lo are the halves -/
def dbl (hi lo : Int) : UInt64 := UInt64.ofNat ((hi + 2147483648).toNat * 4294967296 + (lo + 2147483648).toNat)
def ent (cy : Nat → ClassId) (dv : UInt64) (ad : Nat → Nat) (μ : Mem) (k : Nat) : va_E := match shp k with
  | (0, ci, fs) => .inr (ci, flv ad μ k 0 fs)
  | (1, n, _) => .inl (cy 0, n, .inl (fun j => iI (μ k j)))
  | (2, n, _) => .inl (cy 1, n, .inl (fun j => iI (μ k j)))
  | (3, n, _) => .inl (cy 2, n, .inl (fun j => iI (μ k j)))
  | (4, n, fs) => .inl (cy 3, n, .inr (.inr (.inr (.inr (fun j => (fs.getD j none).map ad)))))
  | (_, n, _) => .inl (cy 0, n, .inl (fun j => iI (μ k j)))
theorem ent_off {cy : Nat → ClassId} {dv : UInt64} {ad : Nat → Nat} {μ μ' : Mem} {k : Nat} (h : ∀ j, μ' k j = μ k j) : ent cy dv ad μ' k = ent cy dv ad μ k := by
  unfold ent
  split
  · rw [flv_off ad μ μ' k _ 0 (fun j _ => h j)]
  all_goals (try simp only [h])
theorem ent_0 {cy : Nat → ClassId} {dv : UInt64} {ad : Nat → Nat} {μ : Mem} {k ci : Nat} {fs : List (Option Nat)} (h : shp k = (0, ci, fs)) : ent cy dv ad μ k = .inr (ci, flv ad μ k 0 fs) := by
  unfold ent; rw [h]; rfl
theorem ent_1 {cy : Nat → ClassId} {dv : UInt64} {ad : Nat → Nat} {μ : Mem} {k n : Nat} {fs : List (Option Nat)} (h : shp k = (1, n, fs)) : ent cy dv ad μ k = .inl (cy 0, n, .inl (fun j => iI (μ k j))) := by
  unfold ent; rw [h]; rfl
theorem ent_2 {cy : Nat → ClassId} {dv : UInt64} {ad : Nat → Nat} {μ : Mem} {k n : Nat} {fs : List (Option Nat)} (h : shp k = (2, n, fs)) : ent cy dv ad μ k = .inl (cy 1, n, .inl (fun j => iI (μ k j))) := by
  unfold ent; rw [h]; rfl
theorem ent_3 {cy : Nat → ClassId} {dv : UInt64} {ad : Nat → Nat} {μ : Mem} {k n : Nat} {fs : List (Option Nat)} (h : shp k = (3, n, fs)) : ent cy dv ad μ k = .inl (cy 2, n, .inl (fun j => iI (μ k j))) := by
  unfold ent; rw [h]; rfl
theorem ent_4 {cy : Nat → ClassId} {dv : UInt64} {ad : Nat → Nat} {μ : Mem} {k n : Nat} {fs : List (Option Nat)} (h : shp k = (4, n, fs)) : ent cy dv ad μ k = .inl (cy 3, n, .inr (.inr (.inr (.inr (fun j => (fs.getD j none).map ad))))) := by
  unfold ent; rw [h]; rfl
/-- the objects from 0 on, n of them -/
def wsl (cy : Nat → ClassId) (dv : UInt64) (ad : Nat → Nat) (μ : Mem) (n : Nat) : va_W := (List.range n).map (fun k => (ad k, ent cy dv ad μ k))
theorem wsl_get {cy : Nat → ClassId} {dv : UInt64} {ad : Nat → Nat} {μ : Mem} {n k : Nat} {E : va_W} (h : k < n) : (wsl cy dv ad μ n ++ E)[k]? = some (ad k, ent cy dv ad μ k) := by
  have hl : k < (wsl cy dv ad μ n).length := by simp [wsl, h]
  rw [List.getElem?_append_left hl]
  simp [wsl, h]
theorem wsl_set {cy : Nat → ClassId} {dv : UInt64} {ad : Nat → Nat} {μ : Mem} {n a i : Nat} {v : Int} {E : va_W} (h : a < n) {e : va_E} (he : e = ent cy dv ad (wr μ a i v) a) : (wsl cy dv ad μ n ++ E).set a (ad a, e) = wsl cy dv ad (wr μ a i v) n ++ E := by
  have hl : a < (wsl cy dv ad μ n).length := by simp [wsl, h]
  rw [List.set_append_left _ _ hl]
  congr 1
  apply List.ext_getElem?
  intro j
  by_cases hj : j = a
  · subst hj
    rw [List.getElem?_set_self hl]
    simp [wsl, h, he]
  · rw [List.getElem?_set_ne (Ne.symm hj)]
    by_cases hjn : j < n
    · simp only [wsl, List.getElem?_map, List.getElem?_range hjn, Option.map_some]
      rw [ent_off (fun i => wr_na hj)]
    · simp [wsl, hjn]
/-! VALUES: a reference is the number of its object -/
def av_l (ad : Nat → Nat) (v : Value) : Value := match v with
  | .ref k => .ref (ad k)
  | w => w
theorem av_cat (ad : Nat → Nat) (v : Value) : (av_l ad v).category = v.category := by cases v <;> rfl
theorem av_sum (ad : Nat → Nat) (st : List Value) : ((st.map (av_l ad)).map fun v => v.category).sum = (st.map fun v => v.category).sum := by
  rw [List.map_map]
  congr 1
  apply List.map_congr_left
  intro v _
  exact av_cat ad v
/-- the locals: .null where nothing is known -/
def lh (ad : Nat → Nat) (lsA : Array Slot) (nL : Nat) (ls : List Value) : Prop :=
  lsA.size = nL ∧ lv_wf lsA ∧ (∀ v ∈ ls, v.category = 1) ∧ ls.length = nL ∧ ∀ (i : Nat) (v : Value), ls[i]? = some v → v ≠ .null → lsA[i]? = some (.val (av_l ad v))
theorem lh_at {ad : Nat → Nat} {lsA : Array Slot} {nL : Nat} {ls : List Value} (h : lh ad lsA nL ls) {i : Nat} {v : Value} (hv : ls[i]? = some v) (hn : v ≠ .null) : lsA[i]? = some (.val (av_l ad v)) := h.2.2.2.2 i v hv hn
def lh_p (ad : Nat → Nat) (ls : List Value) : List (Nat × Value) := (List.range ls.length).filterMap (fun i => match ls[i]? with
  | some Value.null => none
  | some v => some (i, av_l ad v)
  | none => none)
theorem lh_has {ad : Nat → Nat} {lsA : Array Slot} {nL : Nat} {ls : List Value} (h : lh ad lsA nL ls) : lv_has lsA nL (lh_p ad ls) := by
  refine ⟨h.1, h.2.1, fun q hq => ?_⟩
  obtain ⟨i, -, hi⟩ := List.mem_filterMap.mp hq
  split at hi
  · cases hi
  · rename_i v hv hn
    cases hi
    exact lh_at h hn (fun e => hv e)
  · cases hi
theorem lh_mem {ad : Nat → Nat} {ls : List Value} {i : Nat} {v : Value} (hv : ls[i]? = some v) (hn : v ≠ .null) : (i, av_l ad v) ∈ lh_p ad ls := by
  refine List.mem_filterMap.mpr ⟨i, List.mem_range.mpr (List.getElem?_eq_some_iff.mp hv).1, ?_⟩
  rw [hv]
  split
  · rename_i h; cases h; exact absurd rfl hn
  · rename_i w h1 h2; cases h2; rfl
  · rename_i h; cases h
theorem lh_set {ad : Nat → Nat} {lsA lsB : Array Slot} {nL : Nat} {ls : List Value} {i : Nat} {v : Value} (h : lh ad lsA nL ls) (hv : v.category = 1)
    (hB : lv_has lsB nL ((i, av_l ad v) :: (lh_p ad ls).filter (fun q => !(q.1 == i) && !(q.1 + 1 == i && q.2.category == 2)))) : lh ad lsB nL (ls.set i v) := by
  refine ⟨hB.1, hB.2.1, fun w hw => ?_, by rw [List.length_set]; exact h.2.2.2.1, fun j w hj hn => ?_⟩
  · rcases List.mem_or_eq_of_mem_set hw with h1 | h1
    · exact h.2.2.1 w h1
    · rw [h1]; exact hv
  · by_cases e : j = i
    · subst e
      have hl : j < ls.length := by
        have := (List.getElem?_eq_some_iff.mp hj).1
        rwa [List.length_set] at this
      rw [List.getElem?_set_self hl] at hj
      cases hj
      exact hB.2.2 _ List.mem_cons_self
    · rw [List.getElem?_set_ne (Ne.symm e)] at hj
      have hm := lh_mem (ad := ad) hj hn
      refine hB.2.2 (j, av_l ad w) (List.mem_cons_of_mem _ (List.mem_filter.mpr ⟨hm, ?_⟩))
      have hc : (av_l ad w).category = 1 := by rw [av_cat]; exact h.2.2.1 w (List.mem_of_getElem? hj)
      simp [e, hc]
/-! THE WORLD -/
def tys (cy : Nat → ClassId) : List (ClassId × FieldType) := [(cy 0, .int), (cy 1, .boolean), (cy 2, .byte), (cy 3, .object "BarberParliament$Chamber"), (cy 4, .object "BarberParliamentLaw$Own")]
/-- the output: 5000 its length, 5001 its bytes, 5002 its room, 5003 whether its row lies at ad 5001 -/
def sbx (cy : Nat → ClassId) (ad : Nat → Nat) (μ : Mem) (n : Nat) (E : va_W) : Prop :=
  (n < 276 ∧ E = []) ∨ (276 ≤ n ∧ ∃ (sa : Nat) (ml : Int32), E = [(ad 5000, .inr (1, [.ref sa, .int 0, .int ml, .int (iI (μ 5000 0))])), (sa, .inl (cy 2, (μ 5002 0).toNat, .inl (fun j => iI (μ 5001 j))))] ∧
    (μ 5003 0 ≠ 0 → sa = ad 5001) ∧ (0 ≤ μ 5000 0 ∧ μ 5000 0 ≤ μ 5002 0) ∧ (μ 5002 0 = 16 ∨ μ 5002 0 = 22 ∨ μ 5002 0 = 46 ∨ μ 5002 0 = 94 ∨ μ 5002 0 = 190 ∨ μ 5002 0 = 382) ∧ ∀ j, -128 ≤ μ 5001 j ∧ μ 5001 j < 128)
theorem sbx_off {cy : Nat → ClassId} {ad : Nat → Nat} {μ μ' : Mem} {n : Nat} {E : va_W} (h : sbx cy ad μ n E) (h0 : ∀ a j, 5000 ≤ a → μ' a j = μ a j) : sbx cy ad μ' n E := by
  rcases h with h | ⟨hn, sa, ml, e, a1, a2, a3, a4⟩
  · exact Or.inl h
  · have e1 : (fun j => iI (μ' 5001 j)) = fun j => iI (μ 5001 j) := funext (fun j => by rw [h0 5001 j (by decide)])
    refine Or.inr ⟨hn, sa, ml, ?_, ?_, ?_, ?_, ?_⟩
    · rw [h0 5000 0 (by decide), h0 5002 0 (by decide), e1]
      exact e
    · rw [h0 5003 0 (by decide)]
      exact a1
    · rw [h0 5000 0 (by decide), h0 5002 0 (by decide)]
      exact a2
    · rw [h0 5002 0 (by decide)]
      exact a3
    · intro j
      rw [h0 5001 j (by decide)]
      exact a4 j
def wd (D : va_G) (cy : Nat → ClassId) (n : Nat) (ad : Nat → Nat) (dv : UInt64) (μ : Mem) (X0 : Nat → Prop) (H : Heap) : Prop :=
  (∀ a i, rng (μ a i)) ∧ ∃ E : va_W, sbx cy ad μ n E ∧ va_P D vwCl (wsl cy dv ad μ n ++ E) H ∧ va_D X0 (wsl cy dv ad μ n ++ E)
/-- the words that every method is given -/
def aw : List Cond := lw_tbl.filter goodWord
theorem aw_good : GoodIn aw aw := fun w h => ⟨h, good_of_word (List.mem_filter.mp h).2⟩
theorem aw_in {w : Cond} (h : w ∈ lw_tbl) (hg : goodWord w = true) : w ∈ aw := List.mem_filter.mpr ⟨h, hg⟩
/-- the words that outlive that classes are made ready -/
def isNest : Cond → Bool
  | .methodLinkNest _ _ _ _ => true
  | .fieldLinkNest _ _ _ _ _ _ => true
  | _ => false
def fgood (w : Cond) : Bool := w.onTables && (w.keepsFace || isNest w)
def fw : List Cond := lw_tbl.filter fgood
/-- a link to a field: an ordinary one, or one of a nest mate -/
def lkk (own : String) (idx : Nat) (C n d : String) : Prop := Cond.fieldLink own idx C n d ∈ aw ∨ Cond.fieldLinkNest own idx C n d RL ∈ fw
/-! METHODS: (name, bytes, locals, answer, handlers, the law's script) -/
abbrev MI : Type := MethodName × ByteArray × Nat × Option FieldType × List (Nat × Nat × Nat × Nat) × Option (Bool × Nat × (Nat → Int32))
/-- a field's place: by the link idx of class own, place j of the class ci -/
def flk (own : String) (idx ci j : Nat) : Prop := ∃ (C : String) (T : u_T) (N : Nat) (ty : Nat → FieldType), vwCl[ci]? = some (C, T, N) ∧ j < N ∧ lkk own idx C (T j).2.1 (T j).2.2.1 ∧ (∀ w ∈ u_ws C T N, w ∈ aw) ∧
  (∀ k, k < N → parseFieldDescriptor (T k).2.2.1 = some (ty k)) ∧ (∀ a, a < N → ∀ b, b < N → a ≠ b → (T a).2.1 ≠ (T b).2.1) ∧ (T j).1 = C
/-- that may be written, of type ty -/
def fpk (own : String) (idx ci j : Nat) (t : FieldType) : Prop := ∃ (C : String) (T : u_T) (N : Nat) (ty : Nat → FieldType), vwCl[ci]? = some (C, T, N) ∧ j < N ∧ lkk own idx C (T j).2.1 (T j).2.2.1 ∧ (∀ w ∈ u_ws C T N, w ∈ aw) ∧
  (∀ k, k < N → parseFieldDescriptor (T k).2.2.1 = some (ty k)) ∧ (∀ a, a < N → ∀ b, b < N → a ≠ b → (T a).2.1 ≠ (T b).2.1) ∧ (T j).1 = C ∧ (T j).2.2.2 = false ∧ parseFieldDescriptor (T j).2.2.1 = some t
/-- what a call of y wants of the tables -/
def mok (y : MI) (n : Nat) : Prop := Cond.code y.1 y.2.1 y.2.2.1 y.2.2.2.1 ∈ aw ∧ Cond.initialized y.1.cls ∈ aw ∧ plainName y.1.cls = true ∧ (y.1.cls ≠ "java/lang/invoke/MethodHandle" ∧ y.1.cls ≠ "java/lang/invoke/VarHandle" ∧ (parseMethodDescriptor y.1.desc).map (fun d => d.parameters.length) = some n) ∧ y.2.2.1 ≤ 20 ∧ y.2.2.2.2.1 = [] ∧ y.2.2.2.2.2 = none
/-- of a method that knows the script or a text -/
def mok0 (y : MI) (n : Nat) : Prop := Cond.code y.1 y.2.1 y.2.2.1 y.2.2.2.1 ∈ aw ∧ Cond.initialized y.1.cls ∈ aw ∧ plainName y.1.cls = true ∧ (y.1.cls ≠ "java/lang/invoke/MethodHandle" ∧ y.1.cls ≠ "java/lang/invoke/VarHandle" ∧ (parseMethodDescriptor y.1.desc).map (fun d => d.parameters.length) = some n) ∧ y.2.2.1 ≤ 20 ∧ y.2.2.2.2.1 = []
def mokV (y : MI) (n : Nat) : Prop := mok y n ∧ Cond.instanceMethod y.1 ∈ aw ∧ Cond.selects y.1.cls y.1 y.1 ∈ aw
def mokS (y : MI) (n : Nat) : Prop := mok y n ∧ Cond.static y.1 ∈ aw
