/-- what the launch gives for good: classes, rows' classes -/
def kx (D : va_G) (cy : Nat → ClassId) (X0 : Nat) (U : State) (H : Heap) : Prop := va_K D vwCl (tys cy) U
def cx (z d : Nat) (y : MI) (p : Program) (l : Launch) (R : Room) (s : State) (m : MethodId) (args : Array Value) (meth : Method) (c : Code) (D : va_G) (cy : Nat → ClassId) (X0 mc ms n : Nat) : Prop :=
  p.tables.exec = Jvm.exec ∧ c.code = y.2.1 ∧ meth.sig.returnType = y.2.2.2.1 ∧ c.maxLocals = y.2.2.1 ∧ s.vm.findClass y.1.cls = some m.cls ∧ (∀ w ∈ aw, w.before args s = true) ∧ meth.locks = false ∧
  kx D cy X0 s s.heap ∧ z ≤ n ∧ n ≤ 300 ∧ d ≤ R.frames ∧ 40 * d ≤ R.locals ∧ mc ≤ R.cells ∧ ms ≤ R.slots ∧ X0 ≤ s.heap.size ∧ c.exceptionTable.toList = tableOf y.2.2.2.2 ∧ meth.name = y.1.name
/-- the end: an answer r with a memory, or a throw -/
def gQ (D : va_G) (cy : Nat → ClassId) (X0 n : Nat) (ad : Nat → Nat) (Q : Option Value → Mem → Prop) : Array Value → State → Outcome → State → Prop := fun _ st oc t =>
  (∃ (r : Option Value) (μ : Mem) (dv : UInt64), oc = .returned (r.map (av_l ad)) ∧ Q r μ ∧ wd D cy n ad dv μ X0 t.heap) ∧ va_F (fun q : Nat => X0 ≤ q) st t
def gX (D : va_G) (cy : Nat → ClassId) (X0 n : Nat) (ad : Nat → Nat) (X : String → Mem → Prop) : String → State → State → Prop := fun E st t =>
  (∃ (μ : Mem) (dv : UInt64), X E μ ∧ wd D cy n ad dv μ X0 t.heap) ∧ va_F (fun q : Nat => X0 ≤ q) st t
/-- GO: in any run, wherever method y stands at pc with these locals, this stack and this memory, z objects at least being made, it comes to an end with Q or X, having made at most kc cells of ks slots, at most d calls deep -/
def go (z d kc ks : Nat) (y : MI) (Q : Option Value → Mem → Prop) (X : String → Mem → Prop) (pc : Nat) (ls st : List Value) (μ : Mem) : Prop :=
  ∀ (p : Program) (l : Launch) (e : Env) (R : Room) (s : State) (m : MethodId) (args : Array Value) (below : List Frame) (meth : Method) (c : Code) (D : va_G) (cy : Nat → ClassId) (X0 mc ms n : Nat) (ad : Nat → Nat),
    cx z d y p l R s m args meth c D cy X0 mc ms n → ∀ (H : Heap) (locs : List Loc) (cells slots : Nat) (lsA : Array Slot) (dv : UInt64),
    wd D cy n ad dv μ X0 H → va_S (fun q : Nat => X0 ≤ q) s.heap H locs → lh ad lsA y.2.2.1 ls → cells + kc ≤ mc → slots + ks ≤ ms →
    W p l e R s m args below meth c H locs cells slots (vx_MQ below (gQ D cy X0 n ad Q) (gX D cy X0 n ad X) args s mc ms (fun q : Nat => X0 ≤ q)) (F0 m pc lsA (st.map (av_l ad)))
theorem go_use {z d kc ks : Nat} {y : MI} {Q : Option Value → Mem → Prop} {X : String → Mem → Prop} {pc : Nat} {ls st : List Value} {μ : Mem} (K : go z d kc ks y Q X pc ls st μ) {p : Program} {l : Launch} {e : Env} {R : Room} {s : State} {m : MethodId} {args : Array Value} {below : List Frame} {meth : Method} {c : Code} {D : va_G} {cy : Nat → ClassId} {X0 mc ms n : Nat} {ad : Nat → Nat}
    (hc : cx z d y p l R s m args meth c D cy X0 mc ms n) {H : Heap} {locs : List Loc} {cells slots : Nat} {lsA : Array Slot} {dv : UInt64} (hw : wd D cy n ad dv μ X0 H) (hS : va_S (fun q : Nat => X0 ≤ q) s.heap H locs) (hl : lh ad lsA y.2.2.1 ls) (h1 : cells + kc ≤ mc) (h2 : slots + ks ≤ ms) :
    W p l e R s m args below meth c H locs cells slots (vx_MQ below (gQ D cy X0 n ad Q) (gX D cy X0 n ad X) args s mc ms (fun q : Nat => X0 ≤ q)) (F0 m pc lsA (st.map (av_l ad))) :=
  K p l e R s m args below meth c D cy X0 mc ms n ad hc H locs cells slots lsA dv hw hS hl h1 h2
section Rules
variable {z d kc ks : Nat} {y : MI} {Q : Option Value → Mem → Prop} {X : String → Mem → Prop} {pc : Nat} {ls st : List Value} {μ : Mem}
theorem go_iconst {n : Int} (hd : decode y.2.1 pc = .ok (.iconst n, 1)) (K : go z d kc ks y Q X (pc + 1) ls (.int (iI n) :: st) μ) : go z d kc ks y Q X pc ls st μ := by
  intro p l e R s m args below meth c D cy X0 mc ms nn ad hc H locs cells slots lsA dv hw hS hl h1 h2
  exact lv_iconst hc.1 hc.2.1 hd rfl (go_use K hc hw hS hl h1 h2)
theorem go_bipush {n : Int} (hd : decode y.2.1 pc = .ok (.bipush n, 2)) (hn : -128 ≤ n ∧ n < 128) (K : go z d kc ks y Q X (pc + 2) ls (.int (iI n) :: st) μ) : go z d kc ks y Q X pc ls st μ := by
  intro p l e R s m args below meth c D cy X0 mc ms nn ad hc H locs cells slots lsA dv hw hS hl h1 h2
  have e1 : (Int8.ofInt n).toInt32 = iI n := by
    apply Int32.toInt_inj.mp
    rw [iI_t ⟨by omega, by omega⟩, Int8.toInt_toInt32, Int8.toInt_ofInt_of_le hn.1 hn.2]
  exact lv_bipush hc.1 hc.2.1 hd e1 (go_use K hc hw hS hl h1 h2)
theorem go_sipush {n : Int} (hd : decode y.2.1 pc = .ok (.sipush n, 3)) (hn : -32768 ≤ n ∧ n < 32768) (K : go z d kc ks y Q X (pc + 3) ls (.int (iI n) :: st) μ) : go z d kc ks y Q X pc ls st μ := by
  intro p l e R s m args below meth c D cy X0 mc ms nn ad hc H locs cells slots lsA dv hw hS hl h1 h2
  have e1 : (Int16.ofInt n).toInt32 = iI n := by
    apply Int32.toInt_inj.mp
    rw [iI_t ⟨by omega, by omega⟩, Int16.toInt_toInt32, Int16.toInt_ofInt_of_le hn.1 hn.2]
  exact lv_sipush hc.1 hc.2.1 hd e1 (go_use K hc hw hS hl h1 h2)
theorem go_iload_n {k : Fin 4} {i : Nat} {v : Int} (hd : decode y.2.1 pc = .ok (.iload_n k, 1)) (hi : (k : Nat) = i) (hv : ls[i]? = some (.int (iI v))) (K : go z d kc ks y Q X (pc + 1) ls (.int (iI v) :: st) μ) : go z d kc ks y Q X pc ls st μ := by
  intro p l e R s m args below meth c D cy X0 mc ms nn ad hc H locs cells slots lsA dv hw hS hl h1 h2
  exact lv_iload_n hc.1 hc.2.1 hd hi (lh_at hl hv (by intro h; cases h)) (go_use K hc hw hS hl h1 h2)
theorem go_iload {i : Nat} {v : Int} (hd : decode y.2.1 pc = .ok (.iload i, 2)) (hv : ls[i]? = some (.int (iI v))) (K : go z d kc ks y Q X (pc + 2) ls (.int (iI v) :: st) μ) : go z d kc ks y Q X pc ls st μ := by
  intro p l e R s m args below meth c D cy X0 mc ms nn ad hc H locs cells slots lsA dv hw hS hl h1 h2
  exact lv_iload hc.1 hc.2.1 hd (lh_at hl hv (by intro h; cases h)) (go_use K hc hw hS hl h1 h2)
theorem go_aload_n {k : Fin 4} {i a : Nat} (hd : decode y.2.1 pc = .ok (.aload_n k, 1)) (hi : (k : Nat) = i) (hv : ls[i]? = some (.ref a)) (K : go z d kc ks y Q X (pc + 1) ls (.ref a :: st) μ) : go z d kc ks y Q X pc ls st μ := by
  intro p l e R s m args below meth c D cy X0 mc ms nn ad hc H locs cells slots lsA dv hw hS hl h1 h2
  exact lv_aload_n hc.1 hc.2.1 hd hi (lh_at hl hv (by intro h; cases h)) (go_use K hc hw hS hl h1 h2)
theorem go_aload {i a : Nat} (hd : decode y.2.1 pc = .ok (.aload i, 2)) (hv : ls[i]? = some (.ref a)) (K : go z d kc ks y Q X (pc + 2) ls (.ref a :: st) μ) : go z d kc ks y Q X pc ls st μ := by
  intro p l e R s m args below meth c D cy X0 mc ms nn ad hc H locs cells slots lsA dv hw hS hl h1 h2
  exact lv_aload hc.1 hc.2.1 hd (lh_at hl hv (by intro h; cases h)) (go_use K hc hw hS hl h1 h2)
theorem go_istore_n {k : Fin 4} {i : Nat} {v : Int} (hd : decode y.2.1 pc = .ok (.istore_n k, 1)) (hi : (k : Nat) = i) (hn : i < y.2.2.1) (K : go z d kc ks y Q X (pc + 1) (ls.set i (.int (iI v))) st μ) : go z d kc ks y Q X pc ls (.int (iI v) :: st) μ := by
  intro p l e R s m args below meth c D cy X0 mc ms nn ad hc H locs cells slots lsA dv hw hS hl h1 h2
  exact lv_istore_n hc.1 hc.2.1 hd hi (lh_has hl) hn rfl (fun lsB hB => go_use K hc hw hS (lh_set hl rfl hB) h1 h2)
theorem go_istore {i : Nat} {v : Int} (hd : decode y.2.1 pc = .ok (.istore i, 2)) (hn : i < y.2.2.1) (K : go z d kc ks y Q X (pc + 2) (ls.set i (.int (iI v))) st μ) : go z d kc ks y Q X pc ls (.int (iI v) :: st) μ := by
  intro p l e R s m args below meth c D cy X0 mc ms nn ad hc H locs cells slots lsA dv hw hS hl h1 h2
  exact lv_istore hc.1 hc.2.1 hd (lh_has hl) hn rfl (fun lsB hB => go_use K hc hw hS (lh_set hl rfl hB) h1 h2)
theorem go_astore_n {k : Fin 4} {i a : Nat} (hd : decode y.2.1 pc = .ok (.astore_n k, 1)) (hi : (k : Nat) = i) (hn : i < y.2.2.1) (K : go z d kc ks y Q X (pc + 1) (ls.set i (.ref a)) st μ) : go z d kc ks y Q X pc ls (.ref a :: st) μ := by
  intro p l e R s m args below meth c D cy X0 mc ms nn ad hc H locs cells slots lsA dv hw hS hl h1 h2
  exact lv_astore_n hc.1 hc.2.1 hd hi (lh_has hl) hn rfl (fun lsB hB => go_use K hc hw hS (lh_set (v := .ref a) hl rfl hB) h1 h2)
theorem go_astore {i a : Nat} (hd : decode y.2.1 pc = .ok (.astore i, 2)) (hn : i < y.2.2.1) (K : go z d kc ks y Q X (pc + 2) (ls.set i (.ref a)) st μ) : go z d kc ks y Q X pc ls (.ref a :: st) μ := by
  intro p l e R s m args below meth c D cy X0 mc ms nn ad hc H locs cells slots lsA dv hw hS hl h1 h2
  exact lv_astore hc.1 hc.2.1 hd (lh_has hl) hn rfl (fun lsB hB => go_use K hc hw hS (lh_set (v := .ref a) hl rfl hB) h1 h2)
theorem go_iinc {i : Nat} {n v : Int} (hd : decode y.2.1 pc = .ok (.iinc i n, 3)) (hv : ls[i]? = some (.int (iI v))) (hn : i < y.2.2.1) (K : go z d kc ks y Q X (pc + 3) (ls.set i (.int (iI (v + n)))) st μ) : go z d kc ks y Q X pc ls st μ := by
  intro p l e R s m args below meth c D cy X0 mc ms nn ad hc H locs cells slots lsA dv hw hS hl h1 h2
  obtain ⟨k, hk⟩ := List.getElem?_of_mem (lh_mem (ad := ad) hv (by intro h; cases h))
  exact lv_iinc (v := iI (v + n)) hc.1 hc.2.1 hd (lh_has hl) hk (iI_add v n) hn rfl (fun lsB hB => go_use K hc hw hS (lh_set (v := .int (iI (v + n))) hl rfl hB) h1 h2)
theorem go_iadd {a b : Int} (hd : decode y.2.1 pc = .ok (.iadd, 1)) (K : go z d kc ks y Q X (pc + 1) ls (.int (iI (a + b)) :: st) μ) : go z d kc ks y Q X pc ls (.int (iI b) :: .int (iI a) :: st) μ := by
  intro p l e R s m args below meth c D cy X0 mc ms nn ad hc H locs cells slots lsA dv hw hS hl h1 h2
  refine lv_iadd hc.1 hc.2.1 hd ?_
  rw [iI_add]
  exact go_use K hc hw hS hl h1 h2
theorem go_isub {a b : Int} (hd : decode y.2.1 pc = .ok (.isub, 1)) (K : go z d kc ks y Q X (pc + 1) ls (.int (iI (a - b)) :: st) μ) : go z d kc ks y Q X pc ls (.int (iI b) :: .int (iI a) :: st) μ := by
  intro p l e R s m args below meth c D cy X0 mc ms nn ad hc H locs cells slots lsA dv hw hS hl h1 h2
  refine lv_isub hc.1 hc.2.1 hd ?_
  rw [iI_sub]
  exact go_use K hc hw hS hl h1 h2
theorem go_imul {a b : Int} (hd : decode y.2.1 pc = .ok (.imul, 1)) (K : go z d kc ks y Q X (pc + 1) ls (.int (iI (a * b)) :: st) μ) : go z d kc ks y Q X pc ls (.int (iI b) :: .int (iI a) :: st) μ := by
  intro p l e R s m args below meth c D cy X0 mc ms nn ad hc H locs cells slots lsA dv hw hS hl h1 h2
  refine lv_imul hc.1 hc.2.1 hd ?_
  rw [iI_mul]
  exact go_use K hc hw hS hl h1 h2
theorem go_ineg {a : Int} (hd : decode y.2.1 pc = .ok (.ineg, 1)) (K : go z d kc ks y Q X (pc + 1) ls (.int (iI (-a)) :: st) μ) : go z d kc ks y Q X pc ls (.int (iI a) :: st) μ := by
  intro p l e R s m args below meth c D cy X0 mc ms nn ad hc H locs cells slots lsA dv hw hS hl h1 h2
  refine lv_ineg hc.1 hc.2.1 hd ?_
  rw [iI_neg]
  exact go_use K hc hw hS hl h1 h2
theorem go_goto {off : Int} {tgt : Nat} (hd : decode y.2.1 pc = .ok (.goto off, 3)) (ht : (pc : Int) + off = (tgt : Int)) (K : go z d kc ks y Q X tgt ls st μ) : go z d kc ks y Q X pc ls st μ := by
  intro p l e R s m args below meth c D cy X0 mc ms nn ad hc H locs cells slots lsA dv hw hS hl h1 h2
  exact lv_goto hc.1 hc.2.1 hd ht (go_use K hc hw hS hl h1 h2)
theorem go_dup {v : Value} (hd : decode y.2.1 pc = .ok (.dup, 1)) (hv : v.category = 1) (K : go z d kc ks y Q X (pc + 1) ls (v :: v :: st) μ) : go z d kc ks y Q X pc ls (v :: st) μ := by
  intro p l e R s m args below meth c D cy X0 mc ms nn ad hc H locs cells slots lsA dv hw hS hl h1 h2
  exact lv_dup hc.1 hc.2.1 hd (by rw [av_cat]; exact hv) (go_use K hc hw hS hl h1 h2)
theorem go_dup2 {v w : Value} (hd : decode y.2.1 pc = .ok (.dup2, 1)) (hv : v.category = 1) (hv2 : w.category = 1) (K : go z d kc ks y Q X (pc + 1) ls (v :: w :: v :: w :: st) μ) : go z d kc ks y Q X pc ls (v :: w :: st) μ := by
  intro p l e R s m args below meth c D cy X0 mc ms nn ad hc H locs cells slots lsA dv hw hS hl h1 h2
  exact lv_dup2_11 hc.1 hc.2.1 hd (by rw [av_cat]; exact hv) (by rw [av_cat]; exact hv2) (go_use K hc hw hS hl h1 h2)
theorem go_pop {v : Value} (hd : decode y.2.1 pc = .ok (.pop, 1)) (hv : v.category = 1) (K : go z d kc ks y Q X (pc + 1) ls st μ) : go z d kc ks y Q X pc ls (v :: st) μ := by
  intro p l e R s m args below meth c D cy X0 mc ms nn ad hc H locs cells slots lsA dv hw hS hl h1 h2
  exact lv_pop hc.1 hc.2.1 hd (by rw [av_cat]; exact hv) (go_use K hc hw hS hl h1 h2)
theorem go_icmp_eq {a b : Int} {off : Int} {tgt : Nat} (hd : decode y.2.1 pc = .ok (.if_icmp .eq off, 3)) (ht : (pc : Int) + off = (tgt : Int)) (ha : rng a) (hb : rng b) (kt : a = b → go z d kc ks y Q X tgt ls st μ) (kf : a ≠ b → go z d kc ks y Q X (pc + 3) ls st μ) : go z d kc ks y Q X pc ls (.int (iI b) :: .int (iI a) :: st) μ := by
  intro p l e R s m args below meth c D cy X0 mc ms nn ad hc H locs cells slots lsA dv hw hS hl h1 h2
  exact lv_icmp_eq hc.1 hc.2.1 hd ht (fun h => go_use (kt ((iI_eq ha hb).mp h)) hc hw hS hl h1 h2) (fun h => go_use (kf (fun q => h ((iI_eq ha hb).mpr q))) hc hw hS hl h1 h2)
theorem go_if_eq {a : Int} {off : Int} {tgt : Nat} (hd : decode y.2.1 pc = .ok (.ifCond .eq off, 3)) (ht : (pc : Int) + off = (tgt : Int)) (ha : rng a) (kt : a = 0 → go z d kc ks y Q X tgt ls st μ) (kf : a ≠ 0 → go z d kc ks y Q X (pc + 3) ls st μ) : go z d kc ks y Q X pc ls (.int (iI a) :: st) μ := by
  intro p l e R s m args below meth c D cy X0 mc ms nn ad hc H locs cells slots lsA dv hw hS hl h1 h2
  have hb : rng 0 := rng0
  exact lv_if_eq hc.1 hc.2.1 hd ht (fun h => go_use (kt ((iI_eq ha hb).mp h)) hc hw hS hl h1 h2) (fun h => go_use (kf (fun q => h ((iI_eq ha hb).mpr q))) hc hw hS hl h1 h2)
theorem go_icmp_ne {a b : Int} {off : Int} {tgt : Nat} (hd : decode y.2.1 pc = .ok (.if_icmp .ne off, 3)) (ht : (pc : Int) + off = (tgt : Int)) (ha : rng a) (hb : rng b) (kt : a ≠ b → go z d kc ks y Q X tgt ls st μ) (kf : a = b → go z d kc ks y Q X (pc + 3) ls st μ) : go z d kc ks y Q X pc ls (.int (iI b) :: .int (iI a) :: st) μ := by
  intro p l e R s m args below meth c D cy X0 mc ms nn ad hc H locs cells slots lsA dv hw hS hl h1 h2
  exact lv_icmp_ne hc.1 hc.2.1 hd ht (fun h => go_use (kt (fun q => h ((iI_eq ha hb).mpr q))) hc hw hS hl h1 h2) (fun h => go_use (kf ((iI_eq ha hb).mp h)) hc hw hS hl h1 h2)
theorem go_if_ne {a : Int} {off : Int} {tgt : Nat} (hd : decode y.2.1 pc = .ok (.ifCond .ne off, 3)) (ht : (pc : Int) + off = (tgt : Int)) (ha : rng a) (kt : a ≠ 0 → go z d kc ks y Q X tgt ls st μ) (kf : a = 0 → go z d kc ks y Q X (pc + 3) ls st μ) : go z d kc ks y Q X pc ls (.int (iI a) :: st) μ := by
  intro p l e R s m args below meth c D cy X0 mc ms nn ad hc H locs cells slots lsA dv hw hS hl h1 h2
  have hb : rng 0 := rng0
  exact lv_if_ne hc.1 hc.2.1 hd ht (fun h => go_use (kt (fun q => h ((iI_eq ha hb).mpr q))) hc hw hS hl h1 h2) (fun h => go_use (kf ((iI_eq ha hb).mp h)) hc hw hS hl h1 h2)
theorem go_icmp_lt {a b : Int} {off : Int} {tgt : Nat} (hd : decode y.2.1 pc = .ok (.if_icmp .lt off, 3)) (ht : (pc : Int) + off = (tgt : Int)) (ha : rng a) (hb : rng b) (kt : a < b → go z d kc ks y Q X tgt ls st μ) (kf : b ≤ a → go z d kc ks y Q X (pc + 3) ls st μ) : go z d kc ks y Q X pc ls (.int (iI b) :: .int (iI a) :: st) μ := by
  intro p l e R s m args below meth c D cy X0 mc ms nn ad hc H locs cells slots lsA dv hw hS hl h1 h2
  exact lv_icmp_lt hc.1 hc.2.1 hd ht (fun h => go_use (kt ((iI_lt ha hb).mp h)) hc hw hS hl h1 h2) (fun h => go_use (kf (Int.not_lt.mp (fun q => h ((iI_lt ha hb).mpr q)))) hc hw hS hl h1 h2)
theorem go_if_lt {a : Int} {off : Int} {tgt : Nat} (hd : decode y.2.1 pc = .ok (.ifCond .lt off, 3)) (ht : (pc : Int) + off = (tgt : Int)) (ha : rng a) (kt : a < 0 → go z d kc ks y Q X tgt ls st μ) (kf : 0 ≤ a → go z d kc ks y Q X (pc + 3) ls st μ) : go z d kc ks y Q X pc ls (.int (iI a) :: st) μ := by
  intro p l e R s m args below meth c D cy X0 mc ms nn ad hc H locs cells slots lsA dv hw hS hl h1 h2
  have hb : rng 0 := rng0
  exact lv_if_lt hc.1 hc.2.1 hd ht (fun h => go_use (kt ((iI_lt ha hb).mp h)) hc hw hS hl h1 h2) (fun h => go_use (kf (Int.not_lt.mp (fun q => h ((iI_lt ha hb).mpr q)))) hc hw hS hl h1 h2)
theorem go_icmp_ge {a b : Int} {off : Int} {tgt : Nat} (hd : decode y.2.1 pc = .ok (.if_icmp .ge off, 3)) (ht : (pc : Int) + off = (tgt : Int)) (ha : rng a) (hb : rng b) (kt : b ≤ a → go z d kc ks y Q X tgt ls st μ) (kf : a < b → go z d kc ks y Q X (pc + 3) ls st μ) : go z d kc ks y Q X pc ls (.int (iI b) :: .int (iI a) :: st) μ := by
  intro p l e R s m args below meth c D cy X0 mc ms nn ad hc H locs cells slots lsA dv hw hS hl h1 h2
  exact lv_icmp_ge hc.1 hc.2.1 hd ht (fun h => go_use (kt ((iI_le hb ha).mp h)) hc hw hS hl h1 h2) (fun h => go_use (kf (Int.not_le.mp (fun q => h ((iI_le hb ha).mpr q)))) hc hw hS hl h1 h2)
theorem go_if_ge {a : Int} {off : Int} {tgt : Nat} (hd : decode y.2.1 pc = .ok (.ifCond .ge off, 3)) (ht : (pc : Int) + off = (tgt : Int)) (ha : rng a) (kt : 0 ≤ a → go z d kc ks y Q X tgt ls st μ) (kf : a < 0 → go z d kc ks y Q X (pc + 3) ls st μ) : go z d kc ks y Q X pc ls (.int (iI a) :: st) μ := by
  intro p l e R s m args below meth c D cy X0 mc ms nn ad hc H locs cells slots lsA dv hw hS hl h1 h2
  have hb : rng 0 := rng0
  exact lv_if_ge hc.1 hc.2.1 hd ht (fun h => go_use (kt ((iI_le hb ha).mp h)) hc hw hS hl h1 h2) (fun h => go_use (kf (Int.not_le.mp (fun q => h ((iI_le hb ha).mpr q)))) hc hw hS hl h1 h2)
theorem go_icmp_gt {a b : Int} {off : Int} {tgt : Nat} (hd : decode y.2.1 pc = .ok (.if_icmp .gt off, 3)) (ht : (pc : Int) + off = (tgt : Int)) (ha : rng a) (hb : rng b) (kt : b < a → go z d kc ks y Q X tgt ls st μ) (kf : a ≤ b → go z d kc ks y Q X (pc + 3) ls st μ) : go z d kc ks y Q X pc ls (.int (iI b) :: .int (iI a) :: st) μ := by
  intro p l e R s m args below meth c D cy X0 mc ms nn ad hc H locs cells slots lsA dv hw hS hl h1 h2
  exact lv_icmp_gt hc.1 hc.2.1 hd ht (fun h => go_use (kt ((iI_lt hb ha).mp h)) hc hw hS hl h1 h2) (fun h => go_use (kf (Int.not_lt.mp (fun q => h ((iI_lt hb ha).mpr q)))) hc hw hS hl h1 h2)
theorem go_if_gt {a : Int} {off : Int} {tgt : Nat} (hd : decode y.2.1 pc = .ok (.ifCond .gt off, 3)) (ht : (pc : Int) + off = (tgt : Int)) (ha : rng a) (kt : 0 < a → go z d kc ks y Q X tgt ls st μ) (kf : a ≤ 0 → go z d kc ks y Q X (pc + 3) ls st μ) : go z d kc ks y Q X pc ls (.int (iI a) :: st) μ := by
  intro p l e R s m args below meth c D cy X0 mc ms nn ad hc H locs cells slots lsA dv hw hS hl h1 h2
  have hb : rng 0 := rng0
  exact lv_if_gt hc.1 hc.2.1 hd ht (fun h => go_use (kt ((iI_lt hb ha).mp h)) hc hw hS hl h1 h2) (fun h => go_use (kf (Int.not_lt.mp (fun q => h ((iI_lt hb ha).mpr q)))) hc hw hS hl h1 h2)
theorem go_icmp_le {a b : Int} {off : Int} {tgt : Nat} (hd : decode y.2.1 pc = .ok (.if_icmp .le off, 3)) (ht : (pc : Int) + off = (tgt : Int)) (ha : rng a) (hb : rng b) (kt : a ≤ b → go z d kc ks y Q X tgt ls st μ) (kf : b < a → go z d kc ks y Q X (pc + 3) ls st μ) : go z d kc ks y Q X pc ls (.int (iI b) :: .int (iI a) :: st) μ := by
  intro p l e R s m args below meth c D cy X0 mc ms nn ad hc H locs cells slots lsA dv hw hS hl h1 h2
  exact lv_icmp_le hc.1 hc.2.1 hd ht (fun h => go_use (kt ((iI_le ha hb).mp h)) hc hw hS hl h1 h2) (fun h => go_use (kf (Int.not_le.mp (fun q => h ((iI_le ha hb).mpr q)))) hc hw hS hl h1 h2)
theorem go_if_le {a : Int} {off : Int} {tgt : Nat} (hd : decode y.2.1 pc = .ok (.ifCond .le off, 3)) (ht : (pc : Int) + off = (tgt : Int)) (ha : rng a) (kt : a ≤ 0 → go z d kc ks y Q X tgt ls st μ) (kf : 0 < a → go z d kc ks y Q X (pc + 3) ls st μ) : go z d kc ks y Q X pc ls (.int (iI a) :: st) μ := by
  intro p l e R s m args below meth c D cy X0 mc ms nn ad hc H locs cells slots lsA dv hw hS hl h1 h2
  have hb : rng 0 := rng0
  exact lv_if_le hc.1 hc.2.1 hd ht (fun h => go_use (kt ((iI_le ha hb).mp h)) hc hw hS hl h1 h2) (fun h => go_use (kf (Int.not_le.mp (fun q => h ((iI_le ha hb).mpr q)))) hc hw hS hl h1 h2)
theorem go_getI {idx ci j a : Nat} {fs : List (Option Nat)} (hd : decode y.2.1 pc = .ok (.getfield idx, 3)) (hf : flk y.1.cls idx ci j) (hs : shp a = (0, ci, fs)) (hj : fs[j]? = some none) (ha : a < z) (K : rng (μ a j) → go z d kc ks y Q X (pc + 3) ls (.int (iI (μ a j)) :: st) μ) : go z d kc ks y Q X pc ls (.ref a :: st) μ := by
  intro p l e R s m args below meth c D cy X0 mc ms nn ad hc H locs cells slots lsA dv hw hS hl h1 h2
  obtain ⟨C, T, N, ty, f1, f2, f3, f4, f5, f6, f7⟩ := hf
  obtain ⟨hR, E, hE, hP, hD⟩ := id hw
  have hcc := id hc
  obtain ⟨c1, c2, c3, c4, c5, c6, c7, c8, c9, c10, c11⟩ := hcc
  have he : (wsl cy dv ad μ nn ++ E)[a]? = some (ad a, .inr (ci, flv ad μ a 0 fs)) := by rw [wsl_get (by omega), ent_0 hs]
  refine va_get (Ts := aw) (v := .int (iI (μ a j))) c1 c2 c6 f4 c5 c8 hP a he f1 j f2 (c6 _ f3) (fun x h => by rw [f7] at h; exact h) ?_ hd (go_use (K (hR a j)) hc hw hS hl h1 h2)
  rw [flv_get, hj]; simp
theorem go_getR {idx ci j a q : Nat} {fs : List (Option Nat)} (hd : decode y.2.1 pc = .ok (.getfield idx, 3)) (hf : flk y.1.cls idx ci j) (hs : shp a = (0, ci, fs)) (hj : fs[j]? = some (some q)) (ha : a < z) (K : go z d kc ks y Q X (pc + 3) ls (.ref q :: st) μ) : go z d kc ks y Q X pc ls (.ref a :: st) μ := by
  intro p l e R s m args below meth c D cy X0 mc ms nn ad hc H locs cells slots lsA dv hw hS hl h1 h2
  obtain ⟨C, T, N, ty, f1, f2, f3, f4, f5, f6, f7⟩ := hf
  obtain ⟨hR, E, hE, hP, hD⟩ := id hw
  have hcc := id hc
  obtain ⟨c1, c2, c3, c4, c5, c6, c7, c8, c9, c10, c11⟩ := hcc
  have he : (wsl cy dv ad μ nn ++ E)[a]? = some (ad a, .inr (ci, flv ad μ a 0 fs)) := by rw [wsl_get (by omega), ent_0 hs]
  refine va_get (Ts := aw) (v := .ref (ad q)) c1 c2 c6 f4 c5 c8 hP a he f1 j f2 (c6 _ f3) (fun x h => by rw [f7] at h; exact h) ?_ hd (go_use K hc hw hS hl h1 h2)
  rw [flv_get, hj]; simp
theorem wd_put {D : va_G} {cy : Nat → ClassId} {n a i X0 : Nat} {ad : Nat → Nat} {dv : UInt64} {μ : Mem} {H : Heap} {E : va_W} {v : Int} {e : va_E} (hR : ∀ a i, rng (μ a i)) (hE : sbx cy ad μ n E) (hv : rng v) (ha : a < n) (hn : n ≤ 300) (he : e = ent cy dv ad (wr μ a i v) a)
    (hP : va_P D vwCl ((wsl cy dv ad μ n ++ E).set a (ad a, e)) H) (hD : va_D (fun q : Nat => X0 ≤ q) ((wsl cy dv ad μ n ++ E).set a (ad a, e))) : wd D cy n ad dv (wr μ a i v) X0 H := by
  rw [wsl_set ha he] at hP hD
  exact ⟨wr_rng hR hv, E, sbx_off hE (wr_na (by omega)) (fun j => wr_na (by omega)), hP, hD⟩
theorem go_put {idx ci j a : Nat} {v : Int} {t : FieldType} {fs : List (Option Nat)} (hd : decode y.2.1 pc = .ok (.putfield idx, 3)) (hf : fpk y.1.cls idx ci j t) (hs : shp a = (0, ci, fs)) (hj : fs[j]? = some none) (ha : a < z) (hv : rng v) (ht : narrow t (.int (iI v)) = .int (iI v)) (hfit : fits t (.int (iI v)) = true) (K : go z d kc ks y Q X (pc + 3) ls st (wr μ a j v)) : go z d kc ks y Q X pc ls (.int (iI v) :: .ref a :: st) μ := by
  intro p l e R s m args below meth c D cy X0 mc ms nn ad hc H locs cells slots lsA dv hw hS hl h1 h2
  obtain ⟨C, T, N, ty, f1, f2, f3, f4, f5, f6, f7, f8, f9⟩ := hf
  obtain ⟨hR, E, hE, hP, hD⟩ := id hw
  have hcc := id hc
  obtain ⟨c1, c2, c3, c4, c5, c6, c7, c8, c9, c10, c11⟩ := hcc
  have he : (wsl cy dv ad μ nn ++ E)[a]? = some (ad a, .inr (ci, flv ad μ a 0 fs)) := by rw [wsl_get (by omega), ent_0 hs]
  refine va_put (Ts := aw) (v := .int (iI v)) (ty := t) c1 c2 c6 f4 ty f5 f6 c5 c8 hP hD hS a he f1 j f2 (c6 _ f3) (fun x h => by rw [f7] at h; exact h) f8 f9 ht hfit ?_ hd (fun H1 locs1 hP1 hD1 hS1 => ?_)
  · rw [flv_len]; exact (List.getElem?_eq_some_iff.mp hj).1
  · refine go_use K hc (wd_put hR hE hv (by omega) c10 (?_) hP1 hD1) hS1 hl h1 h2
    rw [ent_0 hs]
    have := flv_set ad μ a v fs 0 j hj
    rw [Nat.zero_add] at this
    rw [this]
theorem go_putI {idx ci j a : Nat} {v : Int} {fs : List (Option Nat)} (hd : decode y.2.1 pc = .ok (.putfield idx, 3)) (hf : fpk y.1.cls idx ci j .int) (hs : shp a = (0, ci, fs)) (hj : fs[j]? = some none) (ha : a < z) (hv : rng v) (K : go z d kc ks y Q X (pc + 3) ls st (wr μ a j v)) : go z d kc ks y Q X pc ls (.int (iI v) :: .ref a :: st) μ :=
  go_put hd hf hs hj ha hv rfl rfl K
theorem nar_b {v : Int} (h : v = 0 ∨ v = 1) : narrow .boolean (.int (iI v)) = .int (iI v) ∧ fits .boolean (.int (iI v)) = true := by
  rcases h with h | h <;> subst h <;> exact ⟨by decide, by decide⟩
theorem go_putZ {idx ci j a : Nat} {v : Int} {fs : List (Option Nat)} (hd : decode y.2.1 pc = .ok (.putfield idx, 3)) (hf : fpk y.1.cls idx ci j .boolean) (hs : shp a = (0, ci, fs)) (hj : fs[j]? = some none) (ha : a < z) (hv : v = 0 ∨ v = 1) (K : go z d kc ks y Q X (pc + 3) ls st (wr μ a j v)) : go z d kc ks y Q X pc ls (.int (iI v) :: .ref a :: st) μ :=
  go_put hd hf hs hj ha (by rcases hv with h | h <;> subst h <;> exact ⟨by decide, by decide⟩) (nar_b hv).1 (nar_b hv).2 K
/-! rows -/
theorem go_iaload {a n k : Nat} {i : Int} {fs : List (Option Nat)} (hd : decode y.2.1 pc = .ok (.iaload, 1)) (hs : shp a = (1, n, fs)) (ha : a < z) (hi : i = (k : Int)) (hk : k < n) (hn : n < 4000) (K : rng (μ a k) → go z d kc ks y Q X (pc + 1) ls (.int (iI (μ a k)) :: st) μ) : go z d kc ks y Q X pc ls (.int (iI i) :: .ref a :: st) μ := by
  intro p l e R s m args below meth c D cy X0 mc ms nn ad hc H locs cells slots lsA dv hw hS hl h1 h2
  subst hi
  obtain ⟨hR, E, hE, hP, hD⟩ := id hw
  have hcc := id hc
  obtain ⟨c1, c2, c3, c4, c5, c6, c7, c8, c9, c10, c11⟩ := hcc
  have he : (wsl cy dv ad μ nn ++ E)[a]? = some (ad a, .inl (cy 0, n, .inl (fun j => iI (μ a j)))) := by rw [wsl_get (by omega), ent_1 hs]
  refine va_iald c1 c2 c8 hP a 0 he rfl (iI_in hk (by omega)) hd ?_
  rw [iI_clamp (by omega)]
  exact go_use (K (hR a k)) hc hw hS hl h1 h2
theorem go_zaload {a n k : Nat} {i : Int} {fs : List (Option Nat)} (hd : decode y.2.1 pc = .ok (.baload, 1)) (hs : shp a = (2, n, fs)) (ha : a < z) (hi : i = (k : Int)) (hk : k < n) (hn : n < 4000) (K : rng (μ a k) → go z d kc ks y Q X (pc + 1) ls (.int (iI (μ a k)) :: st) μ) : go z d kc ks y Q X pc ls (.int (iI i) :: .ref a :: st) μ := by
  intro p l e R s m args below meth c D cy X0 mc ms nn ad hc H locs cells slots lsA dv hw hS hl h1 h2
  subst hi
  obtain ⟨hR, E, hE, hP, hD⟩ := id hw
  have hcc := id hc
  obtain ⟨c1, c2, c3, c4, c5, c6, c7, c8, c9, c10, c11⟩ := hcc
  have he : (wsl cy dv ad μ nn ++ E)[a]? = some (ad a, .inl (cy 1, n, .inl (fun j => iI (μ a j)))) := by rw [wsl_get (by omega), ent_2 hs]
  refine va_zald c1 c2 c8 hP a 1 he rfl (iI_in hk (by omega)) hd ?_
  rw [iI_clamp (by omega)]
  exact go_use (K (hR a k)) hc hw hS hl h1 h2
theorem go_baload {a n k : Nat} {i : Int} {fs : List (Option Nat)} (hd : decode y.2.1 pc = .ok (.baload, 1)) (hs : shp a = (3, n, fs)) (ha : a < z) (hi : i = (k : Int)) (hk : k < n) (hn : n < 4000) (K : rng (μ a k) → go z d kc ks y Q X (pc + 1) ls (.int (iI (μ a k)) :: st) μ) : go z d kc ks y Q X pc ls (.int (iI i) :: .ref a :: st) μ := by
  intro p l e R s m args below meth c D cy X0 mc ms nn ad hc H locs cells slots lsA dv hw hS hl h1 h2
  subst hi
  obtain ⟨hR, E, hE, hP, hD⟩ := id hw
  have hcc := id hc
  obtain ⟨c1, c2, c3, c4, c5, c6, c7, c8, c9, c10, c11⟩ := hcc
  have he : (wsl cy dv ad μ nn ++ E)[a]? = some (ad a, .inl (cy 2, n, .inl (fun j => iI (μ a j)))) := by rw [wsl_get (by omega), ent_3 hs]
  refine va_bald c1 c2 c8 hP a 2 he rfl (iI_in hk (by omega)) hd ?_
  rw [iI_clamp (by omega)]
  exact go_use (K (hR a k)) hc hw hS hl h1 h2
theorem upd_wr (μ : Mem) (a k : Nat) (v : Int) : upd (fun j => iI (μ a j)) k (iI v) = fun j => iI (wr μ a k v a j) := by
  funext j
  unfold upd wr
  by_cases h : j = k <;> simp [h]
theorem go_iastore {a n k : Nat} {i v : Int} {fs : List (Option Nat)} (hd : decode y.2.1 pc = .ok (.iastore, 1)) (hs : shp a = (1, n, fs)) (ha : a < z) (hi : i = (k : Int)) (hk : k < n) (hn : n < 4000) (hv : rng v) (K : go z d kc ks y Q X (pc + 1) ls st (wr μ a k v)) : go z d kc ks y Q X pc ls (.int (iI v) :: .int (iI i) :: .ref a :: st) μ := by
  intro p l e R s m args below meth c D cy X0 mc ms nn ad hc H locs cells slots lsA dv hw hS hl h1 h2
  subst hi
  obtain ⟨hR, E, hE, hP, hD⟩ := id hw
  have hcc := id hc
  obtain ⟨c1, c2, c3, c4, c5, c6, c7, c8, c9, c10, c11⟩ := hcc
  have he : (wsl cy dv ad μ nn ++ E)[a]? = some (ad a, .inl (cy 0, n, .inl (fun j => iI (μ a j)))) := by rw [wsl_get (by omega), ent_1 hs]
  refine va_iast c1 c2 c8 hP hD hS a 0 he rfl (iI_in hk (by omega)) hd (fun H1 locs1 hP1 hD1 hS1 => ?_)
  rw [iI_clamp (by omega), upd_wr] at hP1 hD1
  exact go_use K hc (wd_put hR hE hv (by omega) c10 (ent_1 hs).symm hP1 hD1) hS1 hl h1 h2
theorem go_zastore {a n k : Nat} {i v : Int} {fs : List (Option Nat)} (hd : decode y.2.1 pc = .ok (.bastore, 1)) (hs : shp a = (2, n, fs)) (ha : a < z) (hi : i = (k : Int)) (hk : k < n) (hn : n < 4000) (hv : v = 0 ∨ v = 1) (K : go z d kc ks y Q X (pc + 1) ls st (wr μ a k v)) : go z d kc ks y Q X pc ls (.int (iI v) :: .int (iI i) :: .ref a :: st) μ := by
  intro p l e R s m args below meth c D cy X0 mc ms nn ad hc H locs cells slots lsA dv hw hS hl h1 h2
  subst hi
  obtain ⟨hR, E, hE, hP, hD⟩ := id hw
  have hcc := id hc
  obtain ⟨c1, c2, c3, c4, c5, c6, c7, c8, c9, c10, c11⟩ := hcc
  have he : (wsl cy dv ad μ nn ++ E)[a]? = some (ad a, .inl (cy 1, n, .inl (fun j => iI (μ a j)))) := by rw [wsl_get (by omega), ent_2 hs]
  have hnar : vp_nar .boolean (iI v) = iI v := by rcases hv with h | h <;> subst h <;> decide
  refine va_zast c1 c2 c8 hP hD hS a 1 he rfl (iI_in hk (by omega)) hd (fun H1 locs1 hP1 hD1 hS1 => ?_)
  rw [iI_clamp (by omega), hnar, upd_wr] at hP1 hD1
  exact go_use K hc (wd_put hR hE (by rcases hv with h | h <;> subst h <;> exact ⟨by decide, by decide⟩) (by omega) c10 (ent_2 hs).symm hP1 hD1) hS1 hl h1 h2
theorem nar_by {v : Int} (h : -128 ≤ v ∧ v < 128) : vp_nar .byte (iI v) = iI v := by
  rw [vp_nar_byte]
  apply Int32.toInt_inj.mp
  rw [iI_t ⟨by omega, by omega⟩, Int8.toInt_toInt32]
  unfold iI
  rw [Int32.toInt8_ofInt, Int8.toInt_ofInt_of_le h.1 h.2]
theorem go_bastore {a n k : Nat} {i v : Int} {fs : List (Option Nat)} (hd : decode y.2.1 pc = .ok (.bastore, 1)) (hs : shp a = (3, n, fs)) (ha : a < z) (hi : i = (k : Int)) (hk : k < n) (hn : n < 4000) (hv : -128 ≤ v ∧ v < 128) (K : go z d kc ks y Q X (pc + 1) ls st (wr μ a k v)) : go z d kc ks y Q X pc ls (.int (iI v) :: .int (iI i) :: .ref a :: st) μ := by
  intro p l e R s m args below meth c D cy X0 mc ms nn ad hc H locs cells slots lsA dv hw hS hl h1 h2
  subst hi
  obtain ⟨hR, E, hE, hP, hD⟩ := id hw
  have hcc := id hc
  obtain ⟨c1, c2, c3, c4, c5, c6, c7, c8, c9, c10, c11⟩ := hcc
  have he : (wsl cy dv ad μ nn ++ E)[a]? = some (ad a, .inl (cy 2, n, .inl (fun j => iI (μ a j)))) := by rw [wsl_get (by omega), ent_3 hs]
  refine va_bast c1 c2 c8 hP hD hS a 2 he rfl (iI_in hk (by omega)) hd (fun H1 locs1 hP1 hD1 hS1 => ?_)
  rw [iI_clamp (by omega), nar_by hv, upd_wr] at hP1 hD1
  exact go_use K hc (wd_put hR hE ⟨by omega, by omega⟩ (by omega) c10 (ent_3 hs).symm hP1 hD1) hS1 hl h1 h2
theorem go_aaload {a n k q : Nat} {i : Int} {fs : List (Option Nat)} (hd : decode y.2.1 pc = .ok (.aaload, 1)) (hs : shp a = (4, n, fs)) (ha : a < z) (hi : i = (k : Int)) (hk : k < n) (hn : n < 4000) (hq : fs.getD k none = some q) (K : go z d kc ks y Q X (pc + 1) ls (.ref q :: st) μ) : go z d kc ks y Q X pc ls (.int (iI i) :: .ref a :: st) μ := by
  intro p l e R s m args below meth c D cy X0 mc ms nn ad hc H locs cells slots lsA dv hw hS hl h1 h2
  subst hi
  obtain ⟨hR, E, hE, hP, hD⟩ := id hw
  have hcc := id hc
  obtain ⟨c1, c2, c3, c4, c5, c6, c7, c8, c9, c10, c11⟩ := hcc
  have he : (wsl cy dv ad μ nn ++ E)[a]? = some (ad a, .inl (cy 3, n, .inr (.inr (.inr (.inr (fun j => (fs.getD j none).map ad)))))) := by rw [wsl_get (by omega), ent_4 hs]
  refine va_aldq c1 c2 c8 hP a 3 he rfl (iI_in hk (by omega)) hd ?_
  rw [iI_clamp (by omega), hq]
  exact go_use K hc hw hS hl h1 h2
/-! ends -/
theorem go_ireturn {v : Int} (hd : decode y.2.1 pc = .ok (.ireturn, 1)) (hr : y.2.2.2.1 = some .int) (K : Q (some (.int (iI v))) μ) : go z d kc ks y Q X pc ls [.int (iI v)] μ := by
  intro p l e R s m args below meth c D cy X0 mc ms nn ad hc H locs cells slots lsA dv hw hS hl h1 h2
  obtain ⟨c1, c2, c3, c4, c5, c6, c7, c8, c9, c10, c11⟩ := hc
  refine W.widen (k := mc) (n := ms) (by omega) (by omega) (vx_ret ?_)
  exact W.iret (v := iI v) c1 c2 (c3.trans hr) (fun t ht hW => ⟨⟨_, μ, dv, rfl, K, by rw [ht]; exact hw⟩, hS.F ht⟩) hS.2.2 hd c7
theorem go_zreturn {v : Int} (hd : decode y.2.1 pc = .ok (.ireturn, 1)) (hr : y.2.2.2.1 = some .boolean) (hv : v = 0 ∨ v = 1) (K : Q (some (.int (iI v))) μ) : go z d kc ks y Q X pc ls [.int (iI v)] μ := by
  intro p l e R s m args below meth c D cy X0 mc ms nn ad hc H locs cells slots lsA dv hw hS hl h1 h2
  obtain ⟨c1, c2, c3, c4, c5, c6, c7, c8, c9, c10, c11⟩ := hc
  refine W.widen (k := mc) (n := ms) (by omega) (by omega) (vx_ret ?_)
  exact W.zret (v := iI v) c1 c2 (c3.trans hr) (nar_b hv).1 (fun t ht hW => ⟨⟨_, μ, dv, rfl, K, by rw [ht]; exact hw⟩, hS.F ht⟩) hS.2.2 hd c7
theorem go_return (hd : decode y.2.1 pc = .ok (.return_, 1)) (hr : y.2.2.2.1 = none) (K : Q none μ) : go z d kc ks y Q X pc ls [] μ := by
  intro p l e R s m args below meth c D cy X0 mc ms nn ad hc H locs cells slots lsA dv hw hS hl h1 h2
  obtain ⟨c1, c2, c3, c4, c5, c6, c7, c8, c9, c10, c11⟩ := hc
  refine W.widen (k := mc) (n := ms) (by omega) (by omega) (vx_ret ?_)
  exact W.vret c1 c2 (c3.trans hr) (fun t ht hW => ⟨⟨none, μ, dv, rfl, K, by rw [ht]; exact hw⟩, hS.F ht⟩) hS.2.2 hd c7
end Rules
/-! CALLS -/
def els (y : MI) (as : List Value) : List Value := as ++ List.replicate (y.2.2.1 - as.length) .null
/-- method y at its entry, called with as -/
def mt (z d kc ks : Nat) (y : MI) (as : List Value) (Q : Option Value → Mem → Prop) (X : String → Mem → Prop) (μ : Mem) : Prop := go z d kc ks y Q X 0 (els y as) [] μ
def wsa (y : MI) : List Cond := .code y.1 y.2.1 y.2.2.1 y.2.2.2.1 :: aw
def rmd (d kc ks : Nat) : Room := { frames := d, cells := kc, slots := ks, locals := 40 * d }
def gP (D : va_G) (cy : Nat → ClassId) (X0 n : Nat) (ad : Nat → Nat) (dv : UInt64) (μ : Mem) (as : List Value) : Array Value → State → Prop := fun v U =>
  v = (as.map (av_l ad)).toArray ∧ wd D cy n ad dv μ X0 U.heap ∧ kx D cy X0 U U.heap ∧ X0 ≤ U.heap.size
theorem gP_blind {D : va_G} {cy : Nat → ClassId} {X0 n : Nat} {ad : Nat → Nat} {dv : UInt64} {μ : Mem} {as : List Value} : FrameBlind (gP D cy X0 n ad dv μ as) := by
  intro a U g mk h
  obtain ⟨h1, h2, h3, h4⟩ := h
  exact ⟨h1, h2, va_K.moved (u := U) (U := U.calling g mk a) (Vm.Alike.refl U.vm) h3, h4⟩
theorem lg_cat1 : ∀ (vs : List Value), (∀ v ∈ vs, v.category = 1) → (lg_sl vs).length = vs.length
  | [], _ => rfl
  | v :: vs, h => by
    have h1 : v.category = 1 := h v List.mem_cons_self
    have h2 := lg_cat1 vs (fun w hw => h w (List.mem_cons_of_mem _ hw))
    have e : lg_sl (v :: vs) = .val v :: lg_sl vs := by simp [lg_sl, h1]
    rw [e, List.length_cons, h2, List.length_cons]
theorem lv_args_get : ∀ (vs : List Value) (k i : Nat) (v : Value), (∀ v ∈ vs, v.category = 1) → vs[i]? = some v → (k + i, v) ∈ lv_args k vs
  | [], k, i, v, _, h => by simp at h
  | w :: vs, k, 0, v, hc, h => by
    have e : w = v := by simpa using h
    subst e
    exact List.mem_cons_self
  | w :: vs, k, i + 1, v, hc, h => by
    have h1 : w.category = 1 := hc w List.mem_cons_self
    have h2 := lv_args_get vs (k + 1) i v (fun u hu => hc u (List.mem_cons_of_mem _ hu)) (by simpa using h)
    unfold lv_args
    rw [if_neg (by omega), show k + (i + 1) = k + 1 + i by omega]
    exact List.mem_cons_of_mem _ h2
theorem lh_entry {ad : Nat → Nat} {y : MI} {as : List Value} (hl : as.length ≤ y.2.2.1) (hc : ∀ v ∈ as, v.category = 1) :
    lh ad ((lg_sl (as.map (av_l ad)) ++ List.replicate (y.2.2.1 - (lg_sl (as.map (av_l ad))).length) Slot.unset).toArray) y.2.2.1 (els y as) := by
  have hc' : ∀ v ∈ as.map (av_l ad), v.category = 1 := by
    intro v hv
    obtain ⟨w, hw, rfl⟩ := List.mem_map.mp hv
    rw [av_cat]; exact hc w hw
  have hlen := lg_cat1 _ hc'
  have h := lv_entry (as.map (av_l ad)) (n := y.2.2.1) (by rw [hlen, List.length_map]; exact hl)
  refine ⟨h.1, h.2.1, fun v hv => ?_, by simp [els]; omega, fun i v hv hn => ?_⟩
  · rcases List.mem_append.mp hv with h1 | h1
    · exact hc v h1
    · rw [List.eq_of_mem_replicate h1]; rfl
  · by_cases hi : i < as.length
    · have e : as[i]? = some v := by rwa [els, List.getElem?_append_left hi] at hv
      have m := lv_args_get (as.map (av_l ad)) 0 i (av_l ad v) hc' (by rw [List.getElem?_map, e]; rfl)
      rw [Nat.zero_add] at m
      exact h.2.2 _ m
    · rw [els, List.getElem?_append_right (by omega)] at hv
      exact absurd (List.eq_of_mem_replicate (List.mem_of_getElem? hv)) hn
theorem mt_vx {z d kc ks : Nat} {y : MI} {as : List Value} {Q : Option Value → Mem → Prop} {X : String → Mem → Prop} {μ : Mem} (h : mt z d kc ks y as Q X μ) (hp : plainName y.1.cls = true) (hh : y.2.2.2.2 = []) (hl : as.length ≤ y.2.2.1) (hc : ∀ v ∈ as, v.category = 1)
    {l : Launch} {D : va_G} {cy : Nat → ClassId} {X0 n : Nat} {ad : Nat → Nat} {dv : UInt64} (hz : z ≤ n) (hn : n ≤ 300) :
    vx_Met l y.1 (wsa y) (rmd d kc ks) (gP D cy X0 n ad dv μ as) (gQ D cy X0 n ad Q) (gX D cy X0 n ad X) kc ks (fun q : Nat => X0 ≤ q) := by
  refine vx_ofW (cc := y.2.1) (maxL := y.2.2.1) (ret := y.2.2.2.1) hp rfl ?_
  intro p e s m args below meth c s₁ B hml htb hv
  obtain ⟨rfl, hw, hk, hX⟩ := hv
  have ht : c.exceptionTable.toList = tableOf y.2.2.2.2 := by
    rw [hh]
    cases hx : c.exceptionTable.toList with
    | nil => rfl
    | cons a r => exact (htb a (by rw [hx]; exact List.mem_cons_self)).elim
  rw [lg_entry_eq]
  exact go_use h (l := l) (R := (headSpec (wsa y) (rmd d kc ks)).room) ⟨B.exec, B.bytes, B.returns, hml, findClass_of_methodNamed B.named, fun w hw => atoms_spec (ws := wsa y) B.pre w (List.mem_cons_of_mem _ hw), B.notSynchronized, hk, hz, hn, Nat.le_refl d, Nat.le_refl (40 * d), Nat.le_refl kc, Nat.le_refl ks, hX, ht, (name_of_methodNamed B.named B.method).1⟩
    hw va_S.rf (lh_entry hl hc) (by omega) (by omega)
theorem vx_plain {l : Launch} {y : MethodName} {ws : List Cond} {rm : Room} {Pc : Array Value → State → Prop} {Qc : Array Value → State → Outcome → State → Prop} {XC : String → State → State → Prop} {mc ms : Nat} {free : Addr → Prop}
    (h : vx_Met l y ws rm Pc Qc XC mc ms free) (hX : ∀ E s t, ¬ XC E s t) : Met l y ws rm Pc Qc mc ms free := by
  intro p e ha h1 h2 s m args below hf happ hP hK
  obtain ⟨n, o, a, b, c, hQ⟩ := h p e ha h1 h2 s m args below hf happ hP hK
  refine ⟨n, o, a, b, c, ?_⟩
  rcases hQ with hQ | ⟨q, -, E, ce, L, hx, -⟩
  · exact hQ
  · exact absurd hx (hX E _ _)
theorem good_wsa {y : MI} (h : Cond.code y.1 y.2.1 y.2.2.1 y.2.2.2.1 ∈ aw) : GoodIn aw (wsa y) := fun w hw => aw_good w ((List.mem_cons.mp hw).elim (fun e => e ▸ h) id)
section Calls2
variable {z d kc ks : Nat} {y : MI} {Q : Option Value → Mem → Prop} {X : String → Mem → Prop} {pc : Nat} {ls st : List Value} {μ : Mem}
/-- behind a call: the answer is pushed, the memory is what the callee left -/
theorem go_back {kc' ks' kc2 ks2 : Nat} {rest : List Value} {p : Program} {l : Launch} {e : Env} {R : Room} {s : State} {m : MethodId} {args : Array Value} {below : List Frame} {meth : Method} {c : Code} {D : va_G} {cy : Nat → ClassId} {X0 mc ms n : Nat} {ad : Nat → Nat}
    (hc : cx z d y p l R s m args meth c D cy X0 mc ms n) {H : Heap} {locs : List Loc} {cells slots : Nat} {lsA : Array Slot} {st0 : List Value} {a : Array Value}
    (hS : va_S (fun q : Nat => X0 ≤ q) s.heap H locs) (hl : lh ad lsA y.2.2.1 ls) (h1 : cells + kc' + kc2 ≤ mc) (h2 : slots + ks' + ks2 ≤ ms)
    (hr : va_Run p l e R s m args below meth c H locs cells slots kc' ks' (F0 m pc lsA st0) (rest.map (av_l ad)) (gQ D cy X0 n ad (fun r μ' => go z d kc2 ks2 y Q X (pc + 3) ls (r.toList ++ rest) μ') a) (fun q : Nat => X0 ≤ q)) :
    W p l e R s m args below meth c H locs cells slots (vx_MQ below (gQ D cy X0 n ad Q) (gX D cy X0 n ad X) args s mc ms (fun q : Nat => X0 ≤ q)) (F0 m pc lsA st0) := by
  intro T hT X9
  obtain ⟨v, st₀, t, T', L, h0, X', hL, e1, e2, ⟨⟨r, μ', dv', hv, hp, hb⟩, hz, hk⟩, st9⟩ := hr T hT X9
  have hv' : v = r.map (av_l ad) := by injection hv
  subst hv'
  rw [h0] at hz hk
  have hS' : va_S (fun q : Nat => X0 ≤ q) s.heap T'.heap (locs ++ L) := ⟨Nat.le_trans hS.1 (by rw [e1]; exact hz), fun q h1 h2 => by rw [e1, hk q (Nat.lt_of_lt_of_le h1 hS.1) h2]; exact hS.2.1 q h1 h2, fun q hq => by
      rcases List.mem_append.mp hq with h | h
      · exact hS.2.2 q h
      · exact hL q h⟩
  have e3 : (r.map (av_l ad)).toList ++ rest.map (av_l ad) = (r.toList ++ rest).map (av_l ad) := by cases r <;> rfl
  have hw' : wd D cy n ad dv' μ' X0 T'.heap := by rw [e1]; exact hb
  obtain ⟨t2, a1, b1⟩ := go_use hp hc hw' hS' hl (by omega) (by omega) T' rfl X'
  refine ⟨t2, st9 t2 ?_, b1⟩
  show Steps p.tables e below (T'.setTop { F0 m pc lsA st0 with pc := pc + 3, stack := (r.map (av_l ad)).toList ++ rest.map (av_l ad) }) t2
  rw [e3]
  exact a1
/-- an instance method of our classes, public or private, that doesn't throw -/
theorem go_callV {z' d' kc' ks' kc2 ks2 b idx n ci : Nat} {y' : MI} {as rest : List Value} {fs : List (Option Nat)} (hd : decode y.2.1 pc = .ok (.invokevirtual idx, 3)) (hst : st = as.reverse ++ .ref b :: rest) (hlk : Cond.methodLink y.1.cls idx y'.1 ∈ aw) (hm : mokV y' n) (hs : shp b = (0, ci, fs)) (hcl : ∃ T N, vwCl[ci]? = some (y'.1.cls, T, N)) (hb : b < z)
    (hn : as.length = n) (hl' : n + 1 ≤ y'.2.2.1) (hcat : ∀ v ∈ as, v.category = 1) (hW : (rest.map fun v => v.category).sum ≤ 8) (hz : z' ≤ z) (hdd : d' + 1 ≤ d) (hk : kc' + kc2 ≤ kc) (hks : ks' + ks2 ≤ ks)
    (K : mt z' d' kc' ks' y' (.ref b :: as) (fun r μ' => go z d kc2 ks2 y Q X (pc + 3) ls (r.toList ++ rest) μ') (fun _ _ => False) μ) : go z d kc ks y Q X pc ls st μ := by
  subst hst
  intro p l e R s m args below meth c D cy X0 mc ms nn ad hc H locs cells slots lsA dv hw hS hl h1 h2
  obtain ⟨c1, c2, c3, c4, c5, c6, c7, c8, c9, c10, c11, c12, c13, c14, c15, c16⟩ := id hc
  obtain ⟨⟨k1, k2, k3, k4, k5, k6⟩, k7, k8⟩ := hm
  obtain ⟨TT, NN, hcl⟩ := hcl
  have hM : Met l y'.1 (wsa y') (rmd d' kc' ks') (gP D cy X0 nn ad dv μ (.ref b :: as)) _ kc' ks' (fun q : Nat => X0 ≤ q) := vx_plain (mt_vx (l := l) (D := D) (cy := cy) (X0 := X0) (n := nn) (ad := ad) (dv := dv) K k3 k6 (by simp; omega) (by simpa using ⟨rfl, hcat⟩) (by omega) c10) (by rintro E s t ⟨⟨_, _, h, -⟩, -⟩; exact h)
  have hcw : CallW R s args y.1.cls y'.1.cls idx y'.1 y'.2.1 y'.2.2.1 y'.2.2.2.1 (wsa y') (rmd d' kc' ks') kc' ks' n :=
    ⟨callB_of n c6 (good_wsa k1) rfl rfl rfl (c6 _ k2) (c6 _ hlk) k4 ⟨by show d' + 1 ≤ _; omega, by show 8 + (y'.2.2.1 + 11) + 40 * d' ≤ _; omega⟩, c6 _ k7, c6 _ k8⟩
  obtain ⟨hR, E, hE, hP, hD⟩ := id hw
  have he : (wsl cy dv ad μ nn ++ E)[b]? = some (ad b, .inr (ci, flv ad μ b 0 fs)) := by rw [wsl_get (by omega), ent_0 hs]
  have hp : PreV s H y'.1.cls (ad b) (gP D cy X0 nn ad dv μ (.ref b :: as)) (as.map (av_l ad)) :=
    ⟨gP_blind, va_recv c8 hP hcl he, fun U hU hWU => ⟨rfl, by rw [hU]; exact hw, va_K.moved hWU.alike c8, by rw [hU]; exact Nat.le_trans c15 hS.1⟩⟩
  refine go_back (kc' := kc') (ks' := ks') (kc2 := kc2) (ks2 := ks2) (rest := rest) hc hS hl (by omega) (by omega) (a := (Value.ref (ad b) :: as.map (av_l ad)).toArray) ?_
  refine va_runV (As := as.map (av_l ad)) (b := ad b) (nL := y.2.2.1) ⟨c1, c2, c4, c5, c6⟩ hM hcw hp rfl (by rw [List.length_map]; exact hn) hl.1 ?_ (lv_room (by rw [av_sum]; exact hW)) hd ⟨by omega, by omega⟩
  simp [List.map_append, List.map_reverse, av_l]
/-- a static method of our classes that doesn't throw -/
theorem go_callS {z' d' kc' ks' kc2 ks2 idx n : Nat} {y' : MI} {as rest : List Value} (hd : decode y.2.1 pc = .ok (.invokestatic idx, 3)) (hst : st = as.reverse ++ rest) (hlk : Cond.methodLink y.1.cls idx y'.1 ∈ aw) (hm : mokS y' n)
    (hn : as.length = n) (hl' : n ≤ y'.2.2.1) (hcat : ∀ v ∈ as, v.category = 1) (hW : (rest.map fun v => v.category).sum ≤ 8) (hz : z' ≤ z) (hdd : d' + 1 ≤ d) (hk : kc' + kc2 ≤ kc) (hks : ks' + ks2 ≤ ks)
    (K : mt z' d' kc' ks' y' as (fun r μ' => go z d kc2 ks2 y Q X (pc + 3) ls (r.toList ++ rest) μ') (fun _ _ => False) μ) : go z d kc ks y Q X pc ls st μ := by
  subst hst
  intro p l e R s m args below meth c D cy X0 mc ms nn ad hc H locs cells slots lsA dv hw hS hl h1 h2
  obtain ⟨c1, c2, c3, c4, c5, c6, c7, c8, c9, c10, c11, c12, c13, c14, c15, c16⟩ := id hc
  obtain ⟨⟨k1, k2, k3, k4, k5, k6⟩, k7⟩ := hm
  have hM : Met l y'.1 (wsa y') (rmd d' kc' ks') (gP D cy X0 nn ad dv μ as) _ kc' ks' (fun q : Nat => X0 ≤ q) := vx_plain (mt_vx (l := l) (D := D) (cy := cy) (X0 := X0) (n := nn) (ad := ad) (dv := dv) K k3 k6 (by omega) hcat (by omega) c10) (by rintro E s t ⟨⟨_, _, h, -⟩, -⟩; exact h)
  have hcw : CallB R s args y.1.cls idx y'.1 y'.2.1 y'.2.2.1 y'.2.2.2.1 (wsa y') (rmd d' kc' ks') kc' ks' n ∧ (Cond.static y'.1).before args s = true :=
    ⟨callB_of n c6 (good_wsa k1) rfl rfl rfl (c6 _ k2) (c6 _ hlk) k4 ⟨by show d' + 1 ≤ _; omega, by show 8 + (y'.2.2.1 + 11) + 40 * d' ≤ _; omega⟩, c6 _ k7⟩
  have hp : PreS s H (gP D cy X0 nn ad dv μ as) (as.map (av_l ad)) :=
    ⟨gP_blind, fun U hU hWU => ⟨rfl, by rw [hU]; exact hw, va_K.moved hWU.alike c8, by rw [hU]; exact Nat.le_trans c15 hS.1⟩⟩
  refine go_back (kc' := kc') (ks' := ks') (kc2 := kc2) (ks2 := ks2) (rest := rest) hc hS hl (by omega) (by omega) (a := (as.map (av_l ad)).toArray) ?_
  refine va_runS (As := as.map (av_l ad)) (nL := y.2.2.1) ⟨c1, c2, c4, c5, c6⟩ hM hcw hp rfl (by rw [List.length_map]; exact hn) hl.1 ?_ (lv_room (by rw [av_sum]; exact hW)) hd ⟨by omega, by omega⟩
  simp [List.map_append, List.map_reverse]
end Calls2
