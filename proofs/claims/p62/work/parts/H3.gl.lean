/-! A JUDGEMENT that knows its addresses, and keeps further cells -/
def wdF (D : va_G) (cy : Nat → ClassId) (n : Nat) (ad : Nat → Nat) (dv : UInt64) (μ : Mem) (X0 : Nat → Prop) (H : Heap) (F9 : va_W) : Prop :=
  (∀ a i, rng (μ a i)) ∧ ∃ E : va_W, sbx cy ad μ n E ∧ va_P D vwCl (wsl cy dv ad μ n ++ (E ++ F9)) H ∧ va_D X0 (wsl cy dv ad μ n ++ (E ++ F9))
def gl (D : va_G) (cy : Nat → ClassId) (X0 : Nat → Prop) (nn : Nat) (ad : Nat → Nat) (F9 : va_W) (d kc ks : Nat) (y : MI) (PQ : Array Value → State → Outcome → State → Prop) (PX : String → State → State → Prop) (pc : Nat) (ls st : List Value) (μ : Mem) : Prop :=
  ∀ (p : Program) (l : Launch) (e : Env) (R : Room) (s : State) (m : MethodId) (args : Array Value) (below : List Frame) (meth : Method) (c : Code) (mc ms : Nat),
    cx nn d y p l R s m args meth c D cy X0 mc ms nn ad → ao s → ∀ (H : Heap) (locs : List Loc) (cells slots : Nat) (lsA : Array Slot) (dv : UInt64),
    wdF D cy nn ad dv μ X0 H F9 → va_S X0 s.heap H locs → lh ad lsA y.2.2.1 ls → cells + kc ≤ mc → slots + ks ≤ ms →
    W p l e R s m args below meth c H locs cells slots (vx_MQ below PQ PX args s mc ms X0) (F0 m pc lsA (st.map (av_l ad)))
theorem wdF_put {D : va_G} {cy : Nat → ClassId} {n a i : Nat} {X0 : Nat → Prop} {ad : Nat → Nat} {dv : UInt64} {μ : Mem} {H : Heap} {E F9 : va_W} {v : Int} {e : va_E} (hR : ∀ a i, rng (μ a i)) (hE : sbx cy ad μ n E) (hv : rng v) (ha : a < n) (hn : n ≤ 400) (he : e = ent cy dv ad (wr μ a i v) a)
    (hP : va_P D vwCl ((wsl cy dv ad μ n ++ (E ++ F9)).set a (ad a, e)) H) (hD : va_D X0 ((wsl cy dv ad μ n ++ (E ++ F9)).set a (ad a, e))) : wdF D cy n ad dv (wr μ a i v) X0 H F9 := by
  rw [wsl_set ha he] at hP hD
  exact ⟨wr_rng hR hv, E, sbx_off hE (fun b j hb => wr_na (by omega)), hP, hD⟩
section Gl
variable {D : va_G} {cy : Nat → ClassId} {X0 : Nat → Prop} {nn : Nat} {ad : Nat → Nat} {F9 : va_W} {d kc ks : Nat} {y : MI} {PQ : Array Value → State → Outcome → State → Prop} {PX : String → State → State → Prop} {pc : Nat} {ls st : List Value} {μ : Mem}
theorem gl_use (K : gl D cy X0 nn ad F9 d kc ks y PQ PX pc ls st μ) {p : Program} {l : Launch} {e : Env} {R : Room} {s : State} {m : MethodId} {args : Array Value} {below : List Frame} {meth : Method} {c : Code} {mc ms : Nat}
    (hc : cx nn d y p l R s m args meth c D cy X0 mc ms nn ad) (ho : ao s) {H : Heap} {locs : List Loc} {cells slots : Nat} {lsA : Array Slot} {dv : UInt64} (hw : wdF D cy nn ad dv μ X0 H F9) (hS : va_S X0 s.heap H locs) (hl : lh ad lsA y.2.2.1 ls) (h1 : cells + kc ≤ mc) (h2 : slots + ks ≤ ms) :
    W p l e R s m args below meth c H locs cells slots (vx_MQ below PQ PX args s mc ms X0) (F0 m pc lsA (st.map (av_l ad))) :=
  K p l e R s m args below meth c mc ms hc ho H locs cells slots lsA dv hw hS hl h1 h2
theorem gl_iconst {n : Int} (hd : decode y.2.1 pc = .ok (.iconst n, 1)) (K : gl D cy X0 nn ad F9 d kc ks y PQ PX (pc + 1) ls (.int (iI n) :: st) μ) : gl D cy X0 nn ad F9 d kc ks y PQ PX pc ls st μ := by
  intro p l e R s m args below meth c mc ms hc ho H locs cells slots lsA dv hw hS hl h1 h2
  exact lv_iconst hc.1 hc.2.1 hd rfl (gl_use K hc ho hw hS hl h1 h2)
theorem gl_bipush {n : Int} (hd : decode y.2.1 pc = .ok (.bipush n, 2)) (hn : -128 ≤ n ∧ n < 128) (K : gl D cy X0 nn ad F9 d kc ks y PQ PX (pc + 2) ls (.int (iI n) :: st) μ) : gl D cy X0 nn ad F9 d kc ks y PQ PX pc ls st μ := by
  intro p l e R s m args below meth c mc ms hc ho H locs cells slots lsA dv hw hS hl h1 h2
  have e1 : (Int8.ofInt n).toInt32 = iI n := by
    apply Int32.toInt_inj.mp
    rw [iI_t ⟨by omega, by omega⟩, Int8.toInt_toInt32, Int8.toInt_ofInt_of_le hn.1 hn.2]
  exact lv_bipush hc.1 hc.2.1 hd e1 (gl_use K hc ho hw hS hl h1 h2)
theorem gl_sipush {n : Int} (hd : decode y.2.1 pc = .ok (.sipush n, 3)) (hn : -32768 ≤ n ∧ n < 32768) (K : gl D cy X0 nn ad F9 d kc ks y PQ PX (pc + 3) ls (.int (iI n) :: st) μ) : gl D cy X0 nn ad F9 d kc ks y PQ PX pc ls st μ := by
  intro p l e R s m args below meth c mc ms hc ho H locs cells slots lsA dv hw hS hl h1 h2
  have e1 : (Int16.ofInt n).toInt32 = iI n := by
    apply Int32.toInt_inj.mp
    rw [iI_t ⟨by omega, by omega⟩, Int16.toInt_toInt32, Int16.toInt_ofInt_of_le hn.1 hn.2]
  exact lv_sipush hc.1 hc.2.1 hd e1 (gl_use K hc ho hw hS hl h1 h2)
theorem gl_iload_n {k : Fin 4} {i : Nat} {v : Int} (hd : decode y.2.1 pc = .ok (.iload_n k, 1)) (hi : (k : Nat) = i) (hv : ls[i]? = some (.int (iI v))) (K : gl D cy X0 nn ad F9 d kc ks y PQ PX (pc + 1) ls (.int (iI v) :: st) μ) : gl D cy X0 nn ad F9 d kc ks y PQ PX pc ls st μ := by
  intro p l e R s m args below meth c mc ms hc ho H locs cells slots lsA dv hw hS hl h1 h2
  exact lv_iload_n hc.1 hc.2.1 hd hi (lh_at hl hv (by intro h; cases h)) (gl_use K hc ho hw hS hl h1 h2)
theorem gl_iload {i : Nat} {v : Int} (hd : decode y.2.1 pc = .ok (.iload i, 2)) (hv : ls[i]? = some (.int (iI v))) (K : gl D cy X0 nn ad F9 d kc ks y PQ PX (pc + 2) ls (.int (iI v) :: st) μ) : gl D cy X0 nn ad F9 d kc ks y PQ PX pc ls st μ := by
  intro p l e R s m args below meth c mc ms hc ho H locs cells slots lsA dv hw hS hl h1 h2
  exact lv_iload hc.1 hc.2.1 hd (lh_at hl hv (by intro h; cases h)) (gl_use K hc ho hw hS hl h1 h2)
theorem gl_aload_n {k : Fin 4} {i a : Nat} (hd : decode y.2.1 pc = .ok (.aload_n k, 1)) (hi : (k : Nat) = i) (hv : ls[i]? = some (.ref a)) (K : gl D cy X0 nn ad F9 d kc ks y PQ PX (pc + 1) ls (.ref a :: st) μ) : gl D cy X0 nn ad F9 d kc ks y PQ PX pc ls st μ := by
  intro p l e R s m args below meth c mc ms hc ho H locs cells slots lsA dv hw hS hl h1 h2
  exact lv_aload_n hc.1 hc.2.1 hd hi (lh_at hl hv (by intro h; cases h)) (gl_use K hc ho hw hS hl h1 h2)
theorem gl_aload {i a : Nat} (hd : decode y.2.1 pc = .ok (.aload i, 2)) (hv : ls[i]? = some (.ref a)) (K : gl D cy X0 nn ad F9 d kc ks y PQ PX (pc + 2) ls (.ref a :: st) μ) : gl D cy X0 nn ad F9 d kc ks y PQ PX pc ls st μ := by
  intro p l e R s m args below meth c mc ms hc ho H locs cells slots lsA dv hw hS hl h1 h2
  exact lv_aload hc.1 hc.2.1 hd (lh_at hl hv (by intro h; cases h)) (gl_use K hc ho hw hS hl h1 h2)
theorem gl_istore_n {k : Fin 4} {i : Nat} {v : Int} (hd : decode y.2.1 pc = .ok (.istore_n k, 1)) (hi : (k : Nat) = i) (hn : i < y.2.2.1) (K : gl D cy X0 nn ad F9 d kc ks y PQ PX (pc + 1) (ls.set i (.int (iI v))) st μ) : gl D cy X0 nn ad F9 d kc ks y PQ PX pc ls (.int (iI v) :: st) μ := by
  intro p l e R s m args below meth c mc ms hc ho H locs cells slots lsA dv hw hS hl h1 h2
  exact lv_istore_n hc.1 hc.2.1 hd hi (lh_has hl) hn rfl (fun lsB hB => gl_use K hc ho hw hS (lh_set hl rfl hB) h1 h2)
theorem gl_istore {i : Nat} {v : Int} (hd : decode y.2.1 pc = .ok (.istore i, 2)) (hn : i < y.2.2.1) (K : gl D cy X0 nn ad F9 d kc ks y PQ PX (pc + 2) (ls.set i (.int (iI v))) st μ) : gl D cy X0 nn ad F9 d kc ks y PQ PX pc ls (.int (iI v) :: st) μ := by
  intro p l e R s m args below meth c mc ms hc ho H locs cells slots lsA dv hw hS hl h1 h2
  exact lv_istore hc.1 hc.2.1 hd (lh_has hl) hn rfl (fun lsB hB => gl_use K hc ho hw hS (lh_set hl rfl hB) h1 h2)
theorem gl_astore_n {k : Fin 4} {i a : Nat} (hd : decode y.2.1 pc = .ok (.astore_n k, 1)) (hi : (k : Nat) = i) (hn : i < y.2.2.1) (K : gl D cy X0 nn ad F9 d kc ks y PQ PX (pc + 1) (ls.set i (.ref a)) st μ) : gl D cy X0 nn ad F9 d kc ks y PQ PX pc ls (.ref a :: st) μ := by
  intro p l e R s m args below meth c mc ms hc ho H locs cells slots lsA dv hw hS hl h1 h2
  exact lv_astore_n hc.1 hc.2.1 hd hi (lh_has hl) hn rfl (fun lsB hB => gl_use K hc ho hw hS (lh_set (v := .ref a) hl rfl hB) h1 h2)
theorem gl_astore {i a : Nat} (hd : decode y.2.1 pc = .ok (.astore i, 2)) (hn : i < y.2.2.1) (K : gl D cy X0 nn ad F9 d kc ks y PQ PX (pc + 2) (ls.set i (.ref a)) st μ) : gl D cy X0 nn ad F9 d kc ks y PQ PX pc ls (.ref a :: st) μ := by
  intro p l e R s m args below meth c mc ms hc ho H locs cells slots lsA dv hw hS hl h1 h2
  exact lv_astore hc.1 hc.2.1 hd (lh_has hl) hn rfl (fun lsB hB => gl_use K hc ho hw hS (lh_set (v := .ref a) hl rfl hB) h1 h2)
theorem gl_iinc {i : Nat} {n v : Int} (hd : decode y.2.1 pc = .ok (.iinc i n, 3)) (hv : ls[i]? = some (.int (iI v))) (hn : i < y.2.2.1) (K : gl D cy X0 nn ad F9 d kc ks y PQ PX (pc + 3) (ls.set i (.int (iI (v + n)))) st μ) : gl D cy X0 nn ad F9 d kc ks y PQ PX pc ls st μ := by
  intro p l e R s m args below meth c mc ms hc ho H locs cells slots lsA dv hw hS hl h1 h2
  obtain ⟨k, hk⟩ := List.getElem?_of_mem (lh_mem (ad := ad) hv (by intro h; cases h))
  exact lv_iinc (v := iI (v + n)) hc.1 hc.2.1 hd (lh_has hl) hk (iI_add v n) hn rfl (fun lsB hB => gl_use K hc ho hw hS (lh_set (v := .int (iI (v + n))) hl rfl hB) h1 h2)
theorem gl_iadd {a b : Int} (hd : decode y.2.1 pc = .ok (.iadd, 1)) (K : gl D cy X0 nn ad F9 d kc ks y PQ PX (pc + 1) ls (.int (iI (a + b)) :: st) μ) : gl D cy X0 nn ad F9 d kc ks y PQ PX pc ls (.int (iI b) :: .int (iI a) :: st) μ := by
  intro p l e R s m args below meth c mc ms hc ho H locs cells slots lsA dv hw hS hl h1 h2
  refine lv_iadd hc.1 hc.2.1 hd ?_
  rw [iI_add]
  exact gl_use K hc ho hw hS hl h1 h2
theorem gl_isub {a b : Int} (hd : decode y.2.1 pc = .ok (.isub, 1)) (K : gl D cy X0 nn ad F9 d kc ks y PQ PX (pc + 1) ls (.int (iI (a - b)) :: st) μ) : gl D cy X0 nn ad F9 d kc ks y PQ PX pc ls (.int (iI b) :: .int (iI a) :: st) μ := by
  intro p l e R s m args below meth c mc ms hc ho H locs cells slots lsA dv hw hS hl h1 h2
  refine lv_isub hc.1 hc.2.1 hd ?_
  rw [iI_sub]
  exact gl_use K hc ho hw hS hl h1 h2
theorem gl_imul {a b : Int} (hd : decode y.2.1 pc = .ok (.imul, 1)) (K : gl D cy X0 nn ad F9 d kc ks y PQ PX (pc + 1) ls (.int (iI (a * b)) :: st) μ) : gl D cy X0 nn ad F9 d kc ks y PQ PX pc ls (.int (iI b) :: .int (iI a) :: st) μ := by
  intro p l e R s m args below meth c mc ms hc ho H locs cells slots lsA dv hw hS hl h1 h2
  refine lv_imul hc.1 hc.2.1 hd ?_
  rw [iI_mul]
  exact gl_use K hc ho hw hS hl h1 h2
theorem gl_irem {a b : Int} (hd : decode y.2.1 pc = .ok (.irem, 1)) (ha : rng a) (hb : rng b) (h : 0 < b) (K : gl D cy X0 nn ad F9 d kc ks y PQ PX (pc + 1) ls (.int (iI (a - a.tdiv b * b)) :: st) μ) : gl D cy X0 nn ad F9 d kc ks y PQ PX pc ls (.int (iI b) :: .int (iI a) :: st) μ := by
  intro p l e R s m args below meth c mc ms hc ho H locs cells slots lsA dv hw hS hl h1 h2
  refine lv_irem hc.1 hc.2.1 hd (fun e => ?_) ?_
  · have := (iI_eq hb rng0).mp e
    omega
  · rw [tdiv_iI ha hb h, iI_mul, iI_sub]
    exact gl_use K hc ho hw hS hl h1 h2
theorem gl_iremN {a b : Nat} (hd : decode y.2.1 pc = .ok (.irem, 1)) (ha : (a : Int) < 2147483648) (hb : (b : Int) < 2147483648) (h : 0 < b) (K : gl D cy X0 nn ad F9 d kc ks y PQ PX (pc + 1) ls (.int (iI ((a % b : Nat) : Int)) :: st) μ) : gl D cy X0 nn ad F9 d kc ks y PQ PX pc ls (.int (iI (b : Int)) :: .int (iI (a : Int)) :: st) μ :=
  gl_irem hd ⟨by omega, ha⟩ ⟨by omega, hb⟩ (by omega) (by rw [rem_nat]; exact K)
theorem gl_dup {v : Value} (hd : decode y.2.1 pc = .ok (.dup, 1)) (hv : v.category = 1) (K : gl D cy X0 nn ad F9 d kc ks y PQ PX (pc + 1) ls (v :: v :: st) μ) : gl D cy X0 nn ad F9 d kc ks y PQ PX pc ls (v :: st) μ := by
  intro p l e R s m args below meth c mc ms hc ho H locs cells slots lsA dv hw hS hl h1 h2
  exact lv_dup hc.1 hc.2.1 hd (by rw [av_cat]; exact hv) (gl_use K hc ho hw hS hl h1 h2)
theorem gl_pop {v : Value} (hd : decode y.2.1 pc = .ok (.pop, 1)) (hv : v.category = 1) (K : gl D cy X0 nn ad F9 d kc ks y PQ PX (pc + 1) ls st μ) : gl D cy X0 nn ad F9 d kc ks y PQ PX pc ls (v :: st) μ := by
  intro p l e R s m args below meth c mc ms hc ho H locs cells slots lsA dv hw hS hl h1 h2
  exact lv_pop hc.1 hc.2.1 hd (by rw [av_cat]; exact hv) (gl_use K hc ho hw hS hl h1 h2)
theorem gl_goto {off : Int} {tgt : Nat} (hd : decode y.2.1 pc = .ok (.goto off, 3)) (ht : (pc : Int) + off = (tgt : Int)) (K : gl D cy X0 nn ad F9 d kc ks y PQ PX tgt ls st μ) : gl D cy X0 nn ad F9 d kc ks y PQ PX pc ls st μ := by
  intro p l e R s m args below meth c mc ms hc ho H locs cells slots lsA dv hw hS hl h1 h2
  exact lv_goto hc.1 hc.2.1 hd ht (gl_use K hc ho hw hS hl h1 h2)
theorem gl_icmp_ge {a b : Int} {off : Int} {tgt : Nat} (hd : decode y.2.1 pc = .ok (.if_icmp .ge off, 3)) (ht : (pc : Int) + off = (tgt : Int)) (ha : rng a) (hb : rng b) (kt : b ≤ a → gl D cy X0 nn ad F9 d kc ks y PQ PX tgt ls st μ) (kf : a < b → gl D cy X0 nn ad F9 d kc ks y PQ PX (pc + 3) ls st μ) : gl D cy X0 nn ad F9 d kc ks y PQ PX pc ls (.int (iI b) :: .int (iI a) :: st) μ := by
  intro p l e R s m args below meth c mc ms hc ho H locs cells slots lsA dv hw hS hl h1 h2
  exact lv_icmp_ge hc.1 hc.2.1 hd ht (fun h => gl_use (kt ((iI_le hb ha).mp h)) hc ho hw hS hl h1 h2) (fun h => gl_use (kf (Int.not_le.mp (fun q => h ((iI_le hb ha).mpr q)))) hc ho hw hS hl h1 h2)
theorem gl_icmp_gt {a b : Int} {off : Int} {tgt : Nat} (hd : decode y.2.1 pc = .ok (.if_icmp .gt off, 3)) (ht : (pc : Int) + off = (tgt : Int)) (ha : rng a) (hb : rng b) (kt : b < a → gl D cy X0 nn ad F9 d kc ks y PQ PX tgt ls st μ) (kf : a ≤ b → gl D cy X0 nn ad F9 d kc ks y PQ PX (pc + 3) ls st μ) : gl D cy X0 nn ad F9 d kc ks y PQ PX pc ls (.int (iI b) :: .int (iI a) :: st) μ := by
  intro p l e R s m args below meth c mc ms hc ho H locs cells slots lsA dv hw hS hl h1 h2
  exact lv_icmp_gt hc.1 hc.2.1 hd ht (fun h => gl_use (kt ((iI_lt hb ha).mp h)) hc ho hw hS hl h1 h2) (fun h => gl_use (kf (Int.not_lt.mp (fun q => h ((iI_lt hb ha).mpr q)))) hc ho hw hS hl h1 h2)
theorem gl_icmp_lt {a b : Int} {off : Int} {tgt : Nat} (hd : decode y.2.1 pc = .ok (.if_icmp .lt off, 3)) (ht : (pc : Int) + off = (tgt : Int)) (ha : rng a) (hb : rng b) (kt : a < b → gl D cy X0 nn ad F9 d kc ks y PQ PX tgt ls st μ) (kf : b ≤ a → gl D cy X0 nn ad F9 d kc ks y PQ PX (pc + 3) ls st μ) : gl D cy X0 nn ad F9 d kc ks y PQ PX pc ls (.int (iI b) :: .int (iI a) :: st) μ := by
  intro p l e R s m args below meth c mc ms hc ho H locs cells slots lsA dv hw hS hl h1 h2
  exact lv_icmp_lt hc.1 hc.2.1 hd ht (fun h => gl_use (kt ((iI_lt ha hb).mp h)) hc ho hw hS hl h1 h2) (fun h => gl_use (kf (Int.not_lt.mp (fun q => h ((iI_lt ha hb).mpr q)))) hc ho hw hS hl h1 h2)
theorem gl_icmp_le {a b : Int} {off : Int} {tgt : Nat} (hd : decode y.2.1 pc = .ok (.if_icmp .le off, 3)) (ht : (pc : Int) + off = (tgt : Int)) (ha : rng a) (hb : rng b) (kt : a ≤ b → gl D cy X0 nn ad F9 d kc ks y PQ PX tgt ls st μ) (kf : b < a → gl D cy X0 nn ad F9 d kc ks y PQ PX (pc + 3) ls st μ) : gl D cy X0 nn ad F9 d kc ks y PQ PX pc ls (.int (iI b) :: .int (iI a) :: st) μ := by
  intro p l e R s m args below meth c mc ms hc ho H locs cells slots lsA dv hw hS hl h1 h2
  exact lv_icmp_le hc.1 hc.2.1 hd ht (fun h => gl_use (kt ((iI_le ha hb).mp h)) hc ho hw hS hl h1 h2) (fun h => gl_use (kf (Int.not_le.mp (fun q => h ((iI_le ha hb).mpr q)))) hc ho hw hS hl h1 h2)
theorem gl_icmp_ne {a b : Int} {off : Int} {tgt : Nat} (hd : decode y.2.1 pc = .ok (.if_icmp .ne off, 3)) (ht : (pc : Int) + off = (tgt : Int)) (ha : rng a) (hb : rng b) (kt : a ≠ b → gl D cy X0 nn ad F9 d kc ks y PQ PX tgt ls st μ) (kf : a = b → gl D cy X0 nn ad F9 d kc ks y PQ PX (pc + 3) ls st μ) : gl D cy X0 nn ad F9 d kc ks y PQ PX pc ls (.int (iI b) :: .int (iI a) :: st) μ := by
  intro p l e R s m args below meth c mc ms hc ho H locs cells slots lsA dv hw hS hl h1 h2
  exact lv_icmp_ne hc.1 hc.2.1 hd ht (fun h => gl_use (kt (fun q => h ((iI_eq ha hb).mpr q))) hc ho hw hS hl h1 h2) (fun h => gl_use (kf ((iI_eq ha hb).mp h)) hc ho hw hS hl h1 h2)
theorem gl_icmp_eq {a b : Int} {off : Int} {tgt : Nat} (hd : decode y.2.1 pc = .ok (.if_icmp .eq off, 3)) (ht : (pc : Int) + off = (tgt : Int)) (ha : rng a) (hb : rng b) (kt : a = b → gl D cy X0 nn ad F9 d kc ks y PQ PX tgt ls st μ) (kf : a ≠ b → gl D cy X0 nn ad F9 d kc ks y PQ PX (pc + 3) ls st μ) : gl D cy X0 nn ad F9 d kc ks y PQ PX pc ls (.int (iI b) :: .int (iI a) :: st) μ := by
  intro p l e R s m args below meth c mc ms hc ho H locs cells slots lsA dv hw hS hl h1 h2
  exact lv_icmp_eq hc.1 hc.2.1 hd ht (fun h => gl_use (kt ((iI_eq ha hb).mp h)) hc ho hw hS hl h1 h2) (fun h => gl_use (kf (fun q => h ((iI_eq ha hb).mpr q))) hc ho hw hS hl h1 h2)
theorem gl_if_eq {a : Int} {off : Int} {tgt : Nat} (hd : decode y.2.1 pc = .ok (.ifCond .eq off, 3)) (ht : (pc : Int) + off = (tgt : Int)) (ha : rng a) (kt : a = 0 → gl D cy X0 nn ad F9 d kc ks y PQ PX tgt ls st μ) (kf : a ≠ 0 → gl D cy X0 nn ad F9 d kc ks y PQ PX (pc + 3) ls st μ) : gl D cy X0 nn ad F9 d kc ks y PQ PX pc ls (.int (iI a) :: st) μ := by
  intro p l e R s m args below meth c mc ms hc ho H locs cells slots lsA dv hw hS hl h1 h2
  have hb : rng 0 := rng0
  exact lv_if_eq hc.1 hc.2.1 hd ht (fun h => gl_use (kt ((iI_eq ha hb).mp h)) hc ho hw hS hl h1 h2) (fun h => gl_use (kf (fun q => h ((iI_eq ha hb).mpr q))) hc ho hw hS hl h1 h2)
theorem gl_if_ne {a : Int} {off : Int} {tgt : Nat} (hd : decode y.2.1 pc = .ok (.ifCond .ne off, 3)) (ht : (pc : Int) + off = (tgt : Int)) (ha : rng a) (kt : a ≠ 0 → gl D cy X0 nn ad F9 d kc ks y PQ PX tgt ls st μ) (kf : a = 0 → gl D cy X0 nn ad F9 d kc ks y PQ PX (pc + 3) ls st μ) : gl D cy X0 nn ad F9 d kc ks y PQ PX pc ls (.int (iI a) :: st) μ := by
  intro p l e R s m args below meth c mc ms hc ho H locs cells slots lsA dv hw hS hl h1 h2
  have hb : rng 0 := rng0
  exact lv_if_ne hc.1 hc.2.1 hd ht (fun h => gl_use (kt (fun q => h ((iI_eq ha hb).mpr q))) hc ho hw hS hl h1 h2) (fun h => gl_use (kf ((iI_eq ha hb).mp h)) hc ho hw hS hl h1 h2)
theorem gl_if_lt {a : Int} {off : Int} {tgt : Nat} (hd : decode y.2.1 pc = .ok (.ifCond .lt off, 3)) (ht : (pc : Int) + off = (tgt : Int)) (ha : rng a) (kt : a < 0 → gl D cy X0 nn ad F9 d kc ks y PQ PX tgt ls st μ) (kf : 0 ≤ a → gl D cy X0 nn ad F9 d kc ks y PQ PX (pc + 3) ls st μ) : gl D cy X0 nn ad F9 d kc ks y PQ PX pc ls (.int (iI a) :: st) μ := by
  intro p l e R s m args below meth c mc ms hc ho H locs cells slots lsA dv hw hS hl h1 h2
  have hb : rng 0 := rng0
  exact lv_if_lt hc.1 hc.2.1 hd ht (fun h => gl_use (kt ((iI_lt ha hb).mp h)) hc ho hw hS hl h1 h2) (fun h => gl_use (kf (Int.not_lt.mp (fun q => h ((iI_lt ha hb).mpr q)))) hc ho hw hS hl h1 h2)
theorem gl_if_le {a : Int} {off : Int} {tgt : Nat} (hd : decode y.2.1 pc = .ok (.ifCond .le off, 3)) (ht : (pc : Int) + off = (tgt : Int)) (ha : rng a) (kt : a ≤ 0 → gl D cy X0 nn ad F9 d kc ks y PQ PX tgt ls st μ) (kf : 0 < a → gl D cy X0 nn ad F9 d kc ks y PQ PX (pc + 3) ls st μ) : gl D cy X0 nn ad F9 d kc ks y PQ PX pc ls (.int (iI a) :: st) μ := by
  intro p l e R s m args below meth c mc ms hc ho H locs cells slots lsA dv hw hS hl h1 h2
  have hb : rng 0 := rng0
  exact lv_if_le hc.1 hc.2.1 hd ht (fun h => gl_use (kt ((iI_le ha hb).mp h)) hc ho hw hS hl h1 h2) (fun h => gl_use (kf (Int.not_le.mp (fun q => h ((iI_le ha hb).mpr q)))) hc ho hw hS hl h1 h2)
theorem gl_if_ge {a : Int} {off : Int} {tgt : Nat} (hd : decode y.2.1 pc = .ok (.ifCond .ge off, 3)) (ht : (pc : Int) + off = (tgt : Int)) (ha : rng a) (kt : 0 ≤ a → gl D cy X0 nn ad F9 d kc ks y PQ PX tgt ls st μ) (kf : a < 0 → gl D cy X0 nn ad F9 d kc ks y PQ PX (pc + 3) ls st μ) : gl D cy X0 nn ad F9 d kc ks y PQ PX pc ls (.int (iI a) :: st) μ := by
  intro p l e R s m args below meth c mc ms hc ho H locs cells slots lsA dv hw hS hl h1 h2
  have hb : rng 0 := rng0
  exact lv_if_ge hc.1 hc.2.1 hd ht (fun h => gl_use (kt ((iI_le hb ha).mp h)) hc ho hw hS hl h1 h2) (fun h => gl_use (kf (Int.not_le.mp (fun q => h ((iI_le hb ha).mpr q)))) hc ho hw hS hl h1 h2)
theorem gl_if_gt {a : Int} {off : Int} {tgt : Nat} (hd : decode y.2.1 pc = .ok (.ifCond .gt off, 3)) (ht : (pc : Int) + off = (tgt : Int)) (ha : rng a) (kt : 0 < a → gl D cy X0 nn ad F9 d kc ks y PQ PX tgt ls st μ) (kf : a ≤ 0 → gl D cy X0 nn ad F9 d kc ks y PQ PX (pc + 3) ls st μ) : gl D cy X0 nn ad F9 d kc ks y PQ PX pc ls (.int (iI a) :: st) μ := by
  intro p l e R s m args below meth c mc ms hc ho H locs cells slots lsA dv hw hS hl h1 h2
  have hb : rng 0 := rng0
  exact lv_if_gt hc.1 hc.2.1 hd ht (fun h => gl_use (kt ((iI_lt hb ha).mp h)) hc ho hw hS hl h1 h2) (fun h => gl_use (kf (Int.not_lt.mp (fun q => h ((iI_lt hb ha).mpr q)))) hc ho hw hS hl h1 h2)
theorem gl_getI {idx ci j a : Nat} {fs : List (Option Nat)} (hd : decode y.2.1 pc = .ok (.getfield idx, 3)) (hf : flk y.1.cls idx ci j) (hs : shp a = (0, ci, fs)) (hj : fs[j]? = some none) (ha : a < nn) (K : rng (μ a j) → gl D cy X0 nn ad F9 d kc ks y PQ PX (pc + 3) ls (.int (iI (μ a j)) :: st) μ) : gl D cy X0 nn ad F9 d kc ks y PQ PX pc ls (.ref a :: st) μ := by
  intro p l e R s m args below meth c mc ms hc ho H locs cells slots lsA dv hw hS hl h1 h2
  obtain ⟨C, T, N, ty, f1, f2, f3, f4, f5, f6, f7⟩ := hf
  obtain ⟨hR, E, hE, hP, hD⟩ := id hw
  have hcc := id hc
  obtain ⟨c1, c2, c3, c4, c5, c6, c7, c8, c9, c10, c11⟩ := hcc
  have he : (wsl cy dv ad μ nn ++ (E ++ F9))[a]? = some (ad a, .inr (ci, flv ad μ a 0 fs)) := by rw [wsl_get (by omega), ent_0 hs]
  have hv : (flv ad μ a 0 fs)[j]? = some (.int (iI (μ a j))) := by rw [flv_get, hj]; simp
  rcases f3 with f3 | f3
  · exact va_get (Ts := aw) (v := .int (iI (μ a j))) c1 c2 c6 f4 c5 c8.1 hP a he f1 j f2 (c6 _ f3) (fun x h => by rw [f7] at h; exact h) hv hd (gl_use (K (hR a j)) hc ho hw hS hl h1 h2)
  · exact va_getN (Ts := aw) (v := .int (iI (μ a j))) c1 c2 c6 f4 c5 c8.1 hP a he f1 j f2 (fw_at f3 (c8.2.2.2.2.2.2.2.2.2.2 _ f3)) (fun x h => by rw [f7] at h; exact h) hv hd (gl_use (K (hR a j)) hc ho hw hS hl h1 h2)
theorem gl_put {idx ci j a : Nat} {v : Int} {t : FieldType} {fs : List (Option Nat)} (hd : decode y.2.1 pc = .ok (.putfield idx, 3)) (hf : fpk y.1.cls idx ci j t) (hs : shp a = (0, ci, fs)) (hj : fs[j]? = some none) (ha : a < nn) (hv : rng v) (ht : narrow t (.int (iI v)) = .int (iI v)) (hfit : fits t (.int (iI v)) = true) (K : gl D cy X0 nn ad F9 d kc ks y PQ PX (pc + 3) ls st (wr μ a j v)) : gl D cy X0 nn ad F9 d kc ks y PQ PX pc ls (.int (iI v) :: .ref a :: st) μ := by
  intro p l e R s m args below meth c mc ms hc ho H locs cells slots lsA dv hw hS hl h1 h2
  obtain ⟨C, T, N, ty, f1, f2, f3, f4, f5, f6, f7, f8, f9⟩ := hf
  obtain ⟨hR, E, hE, hP, hD⟩ := id hw
  have hcc := id hc
  obtain ⟨c1, c2, c3, c4, c5, c6, c7, c8, c9, c10, c11⟩ := hcc
  have he : (wsl cy dv ad μ nn ++ (E ++ F9))[a]? = some (ad a, .inr (ci, flv ad μ a 0 fs)) := by rw [wsl_get (by omega), ent_0 hs]
  have hlen : j < (flv ad μ a 0 fs).length := by rw [flv_len]; exact (List.getElem?_eq_some_iff.mp hj).1
  have K9 : ∀ (H1 : Heap) (locs1 : List Loc), va_P D vwCl ((wsl cy dv ad μ nn ++ (E ++ F9)).set a (ad a, .inr (ci, (flv ad μ a 0 fs).set j (.int (iI v))))) H1 → va_D X0 ((wsl cy dv ad μ nn ++ (E ++ F9)).set a (ad a, .inr (ci, (flv ad μ a 0 fs).set j (.int (iI v))))) → va_S X0 s.heap H1 locs1 → W p l e R s m args below meth c H1 locs1 cells slots (vx_MQ below PQ PX args s mc ms X0) (F0 m (pc + 3) lsA (st.map (av_l ad))) := by
    intro H1 locs1 hP1 hD1 hS1
    refine gl_use K hc ho (wdF_put hR hE hv (by omega) c10 (?_) hP1 hD1) hS1 hl h1 h2
    rw [ent_0 hs]
    have := flv_set ad μ a v fs 0 j hj
    rw [Nat.zero_add] at this
    rw [this]
  rcases f3 with f3 | f3
  · exact va_put (Ts := aw) (v := .int (iI v)) (ty := t) c1 c2 c6 f4 ty f5 f6 c5 c8.1 hP hD hS a he f1 j f2 (c6 _ f3) (fun x h => by rw [f7] at h; exact h) f8 f9 ht hfit hlen hd K9
  · exact va_putN (Ts := aw) (v := .int (iI v)) (ty := t) c1 c2 c6 f4 ty f5 f6 c5 c8.1 hP hD hS a he f1 j f2 (fw_at f3 (c8.2.2.2.2.2.2.2.2.2.2 _ f3)) (fun x h => by rw [f7] at h; exact h) f8 f9 ht hfit hlen hd K9
theorem gl_putI {idx ci j a : Nat} {v : Int} {fs : List (Option Nat)} (hd : decode y.2.1 pc = .ok (.putfield idx, 3)) (hf : fpk y.1.cls idx ci j .int) (hs : shp a = (0, ci, fs)) (hj : fs[j]? = some none) (ha : a < nn) (hv : rng v) (K : gl D cy X0 nn ad F9 d kc ks y PQ PX (pc + 3) ls st (wr μ a j v)) : gl D cy X0 nn ad F9 d kc ks y PQ PX pc ls (.int (iI v) :: .ref a :: st) μ :=
  gl_put hd hf hs hj ha hv rfl rfl K
theorem gl_getR {idx ci j a q : Nat} {fs : List (Option Nat)} (hd : decode y.2.1 pc = .ok (.getfield idx, 3)) (hf : flk y.1.cls idx ci j) (hs : shp a = (0, ci, fs)) (hj : fs[j]? = some (some q)) (ha : a < nn) (K : gl D cy X0 nn ad F9 d kc ks y PQ PX (pc + 3) ls (.ref q :: st) μ) : gl D cy X0 nn ad F9 d kc ks y PQ PX pc ls (.ref a :: st) μ := by
  intro p l e R s m args below meth c mc ms hc ho H locs cells slots lsA dv hw hS hl h1 h2
  obtain ⟨C, T, N, ty, f1, f2, f3, f4, f5, f6, f7⟩ := hf
  obtain ⟨hR, E, hE, hP, hD⟩ := id hw
  have hcc := id hc
  obtain ⟨c1, c2, c3, c4, c5, c6, c7, c8, c9, c10, c11⟩ := hcc
  have he : (wsl cy dv ad μ nn ++ (E ++ F9))[a]? = some (ad a, .inr (ci, flv ad μ a 0 fs)) := by rw [wsl_get (by omega), ent_0 hs]
  have hv : (flv ad μ a 0 fs)[j]? = some (.ref (ad q)) := by rw [flv_get, hj]; simp
  rcases f3 with f3 | f3
  · exact va_get (Ts := aw) (v := .ref (ad q)) c1 c2 c6 f4 c5 c8.1 hP a he f1 j f2 (c6 _ f3) (fun x h => by rw [f7] at h; exact h) hv hd (gl_use K hc ho hw hS hl h1 h2)
  · exact va_getN (Ts := aw) (v := .ref (ad q)) c1 c2 c6 f4 c5 c8.1 hP a he f1 j f2 (fw_at f3 (c8.2.2.2.2.2.2.2.2.2.2 _ f3)) (fun x h => by rw [f7] at h; exact h) hv hd (gl_use K hc ho hw hS hl h1 h2)
theorem gl_iaload {a n k : Nat} {i : Int} {fs : List (Option Nat)} (hd : decode y.2.1 pc = .ok (.iaload, 1)) (hs : shp a = (1, n, fs)) (ha : a < nn) (hi : i = (k : Int)) (hk : k < n) (hn : n < 4000) (K : rng (μ a k) → gl D cy X0 nn ad F9 d kc ks y PQ PX (pc + 1) ls (.int (iI (μ a k)) :: st) μ) : gl D cy X0 nn ad F9 d kc ks y PQ PX pc ls (.int (iI i) :: .ref a :: st) μ := by
  intro p l e R s m args below meth c mc ms hc ho H locs cells slots lsA dv hw hS hl h1 h2
  subst hi
  obtain ⟨hR, E, hE, hP, hD⟩ := id hw
  have hcc := id hc
  obtain ⟨c1, c2, c3, c4, c5, c6, c7, c8, c9, c10, c11⟩ := hcc
  have he : (wsl cy dv ad μ nn ++ (E ++ F9))[a]? = some (ad a, .inl (cy 0, n, .inl (fun j => iI (μ a j)))) := by rw [wsl_get (by omega), ent_1 hs]
  refine va_iald c1 c2 c8.1 hP a 0 he rfl (iI_in hk (by omega)) hd ?_
  rw [iI_clamp (by omega)]
  exact gl_use (K (hR a k)) hc ho hw hS hl h1 h2
theorem gl_iastore {a n k : Nat} {i v : Int} {fs : List (Option Nat)} (hd : decode y.2.1 pc = .ok (.iastore, 1)) (hs : shp a = (1, n, fs)) (ha : a < nn) (hi : i = (k : Int)) (hk : k < n) (hn : n < 4000) (hv : rng v) (K : gl D cy X0 nn ad F9 d kc ks y PQ PX (pc + 1) ls st (wr μ a k v)) : gl D cy X0 nn ad F9 d kc ks y PQ PX pc ls (.int (iI v) :: .int (iI i) :: .ref a :: st) μ := by
  intro p l e R s m args below meth c mc ms hc ho H locs cells slots lsA dv hw hS hl h1 h2
  subst hi
  obtain ⟨hR, E, hE, hP, hD⟩ := id hw
  have hcc := id hc
  obtain ⟨c1, c2, c3, c4, c5, c6, c7, c8, c9, c10, c11⟩ := hcc
  have he : (wsl cy dv ad μ nn ++ (E ++ F9))[a]? = some (ad a, .inl (cy 0, n, .inl (fun j => iI (μ a j)))) := by rw [wsl_get (by omega), ent_1 hs]
  refine va_iast c1 c2 c8.1 hP hD hS a 0 he rfl (iI_in hk (by omega)) hd (fun H1 locs1 hP1 hD1 hS1 => ?_)
  rw [iI_clamp (by omega), upd_wr] at hP1 hD1
  exact gl_use K hc ho (wdF_put hR hE hv (by omega) c10 (ent_1 hs).symm hP1 hD1) hS1 hl h1 h2
theorem gl_top {a b : Int} (h : a = b) (K : a = b → gl D cy X0 nn ad F9 d kc ks y PQ PX pc ls (.int (iI b) :: st) μ) : gl D cy X0 nn ad F9 d kc ks y PQ PX pc ls (.int (iI a) :: st) μ := by subst h; exact K rfl
theorem gl_mmin {idx : Nat} {a b : Int} (hd : decode y.2.1 pc = .ok (.invokestatic idx, 3)) (hlk : Cond.methodLink y.1.cls idx Lib.Math.min.name ∈ aw) (hdd : 1 ≤ d) (hW : (st.map fun v => v.category).sum ≤ 8) (ha : rng a) (hb : rng b) (K : gl D cy X0 nn ad F9 d kc ks y PQ PX (pc + 3) ls (.int (iI (min a b)) :: st) μ) : gl D cy X0 nn ad F9 d kc ks y PQ PX pc ls (.int (iI b) :: .int (iI a) :: st) μ := by
  intro p l e R s m args below meth c mc ms hc ho H locs cells slots lsA dv hw hS hl h1 h2
  obtain ⟨c1, c2, c3, c4, c5, c6, c7, c8, c9, c10, c11, c12, c13, c14, c15, c16⟩ := id hc
  refine va_mmin c1 c2 (c4.trans hl.1.symm) c5 (c6 _ hlk) (c6 _ mw_min_s) (c6 _ mw_math) (c6 _ mw_min_c) (by omega) (by rw [av_sum]; omega) (by omega) (by omega) hd ?_
  rw [show (if iI b < iI a then iI b else iI a) = iI (min a b) by
    by_cases h : b < a
    · rw [if_pos ((iI_lt hb ha).mpr h), Int.min_def, if_neg (by omega)]
    · rw [if_neg (fun q => h ((iI_lt hb ha).mp q)), Int.min_def, if_pos (by omega)]]
  exact gl_use K hc ho hw hS hl h1 h2
theorem gl_mmax {idx : Nat} {a b : Int} (hd : decode y.2.1 pc = .ok (.invokestatic idx, 3)) (hlk : Cond.methodLink y.1.cls idx Lib.Math.max.name ∈ aw) (hdd : 1 ≤ d) (hW : (st.map fun v => v.category).sum ≤ 8) (ha : rng a) (hb : rng b) (K : gl D cy X0 nn ad F9 d kc ks y PQ PX (pc + 3) ls (.int (iI (max a b)) :: st) μ) : gl D cy X0 nn ad F9 d kc ks y PQ PX pc ls (.int (iI b) :: .int (iI a) :: st) μ := by
  intro p l e R s m args below meth c mc ms hc ho H locs cells slots lsA dv hw hS hl h1 h2
  obtain ⟨c1, c2, c3, c4, c5, c6, c7, c8, c9, c10, c11, c12, c13, c14, c15, c16⟩ := id hc
  refine va_mmax c1 c2 (c4.trans hl.1.symm) c5 (c6 _ hlk) (c6 _ mw_max_s) (c6 _ mw_math) (c6 _ mw_max_c) (by omega) (by rw [av_sum]; omega) (by omega) (by omega) hd ?_
  rw [show (if iI a < iI b then iI b else iI a) = iI (max a b) by
    by_cases h : a < b
    · rw [if_pos ((iI_lt ha hb).mpr h), Int.max_def, if_pos (by omega)]
    · rw [if_neg (fun q => h ((iI_lt ha hb).mp q))]
      congr 1; omega]
  exact gl_use K hc ho hw hS hl h1 h2
end Gl
