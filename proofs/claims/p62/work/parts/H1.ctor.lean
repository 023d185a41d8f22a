/-! CONSTRUCTORS: the world is a list of cells -/
def ao (U : State) : Prop := va_AO "BarberParliament$Chamber" U ∧ va_AO "BarberParliamentLaw$Own" U
theorem ao_moved {u U : State} (hvm : u.vm.Alike U.vm) (h : ao u) : ao U := ⟨va_AO.moved hvm h.1, va_AO.moved hvm h.2⟩
/-- what a constructor leaves -/
def gcQ (D : va_G) (X0 : Nat → Prop) (Qw : va_W → Nat → Prop) : Array Value → State → Outcome → State → Prop := fun _ st oc t =>
  (oc = .returned none ∧ ∃ (ws : va_W) (h : Nat), Qw ws h ∧ va_P D vwCl ws t.heap ∧ va_D (far X0) ws ∧ t.heap.size = h) ∧ va_F (far X0) st t
abbrev noX : String → State → State → Prop := fun _ _ _ => False
def gc (D : va_G) (cy : Nat → ClassId) (X0 : Nat → Prop) (ad : Nat → Nat) (d kc ks : Nat) (y : MI) (PQ : Array Value → State → Outcome → State → Prop) (PX : String → State → State → Prop) (pc : Nat) (ls st : List Value) (ws : va_W) (h : Nat) : Prop :=
  ∀ (p : Program) (l : Launch) (e : Env) (R : Room) (s : State) (m : MethodId) (args : Array Value) (below : List Frame) (meth : Method) (c : Code) (mc ms : Nat),
    cx 0 d y p l R s m args meth c D cy X0 mc ms 0 ad → ao s → ∀ (H : Heap) (locs : List Loc) (cells slots : Nat) (lsA : Array Slot),
    va_P D vwCl ws H → va_D (far X0) ws → H.size = h → va_S (far X0) s.heap H locs → lh ad lsA y.2.2.1 ls → cells + kc ≤ mc → slots + ks ≤ ms →
    W p l e R s m args below meth c H locs cells slots (vx_MQ below PQ PX args s mc ms (far X0)) (F0 m pc lsA (st.map (av_l ad)))
/-- a final field's place in its own class -/
def flkF (own : String) (idx ci j : Nat) (t : FieldType) : Prop := ∃ (C : String) (T : u_T) (N : Nat) (ty : Nat → FieldType), vwCl[ci]? = some (C, T, N) ∧ j < N ∧ Cond.fieldLink own idx C (T j).2.1 (T j).2.2.1 ∈ aw ∧ (∀ w ∈ u_ws C T N, w ∈ aw) ∧
  (∀ k, k < N → parseFieldDescriptor (T k).2.2.1 = some (ty k)) ∧ (∀ a, a < N → ∀ b, b < N → a ≠ b → (T a).2.1 ≠ (T b).2.1) ∧ (T j).1 = C ∧ (T j).2.2.2 = true ∧ (T j).1 = own ∧ parseFieldDescriptor (T j).2.2.1 = some t
theorem ap_get {W0 L : va_W} {i : Nat} {x : Nat × va_E} (h : L[i]? = some x) : (W0 ++ L)[W0.length + i]? = some x := by
  rw [List.getElem?_append_right (by omega), Nat.add_sub_cancel_left]
  exact h
theorem ap_set {W0 L : va_W} {i : Nat} {x : Nat × va_E} : (W0 ++ L).set (W0.length + i) x = W0 ++ L.set i x := by
  rw [List.set_append_right _ _ (by omega), Nat.add_sub_cancel_left]
theorem cell_0 {cA : ClassId} {n : Nat} : vp_cell cA (n, .inl (fun _ => iI 0)) = arrV cA n (fun _ => .int 0) := by
  rw [vp_cell_i]
  rfl
/-! fields put, the heap's size being kept -/
section PutZ
variable {p : Program} {l : Launch} {e : Env} {R : Room} {s : State} {m : MethodId} {args : Array Value} {below : List Frame} {meth : Method} {c : Code} {H H0 : Heap} {locs : List Loc} {cells slots : Nat} {Q : State → Prop} {A : Nat → Prop}
variable {cc : ByteArray} {pc : Nat} {ls : Array Slot} {rest : List Value} {D : va_G} {cl : List vw_C} {a : Nat} {tys : List (ClassId × FieldType)} {ws : va_W}
theorem va_putFz (hexec : p.tables.exec = Jvm.exec) (hb : c.code = cc) {own ref C : String} {T : u_T} {N ci index : Nat} {Ts : List Cond} (hts : ∀ w ∈ Ts, w.before args s = true) (hin : ∀ w ∈ u_ws C T N, w ∈ Ts) (ty0 : Nat → FieldType) (hty : ∀ k, k < N → parseFieldDescriptor (T k).2.2.1 = some (ty0 k)) (hnm : ∀ a, a < N → ∀ b, b < N → a ≠ b → (T a).2.1 ≠ (T b).2.1) (hown : s.vm.findClass own = some m.cls) (hK : va_K D cl tys s) (hP : va_P D cl ws H) (hD : va_D A ws) (hS0 : va_S A H0 H locs) (q0 : Nat) {fs : List Value} (he : ws[q0]? = some (a, .inr (ci, fs))) (hc : cl[ci]? = some (C, T, N)) (k : Nat) (hk : k < N)
    (hlink : (Cond.fieldLink own index ref (T k).2.1 (T k).2.2.1).before args s = true) (hsame : ∀ x, s.fieldFound? (T k).1 (T k).2.1 (T k).2.2.1 = some x → s.fieldFound? ref (T k).2.1 (T k).2.2.1 = some x) (hfin : (T k).2.2.2 = true) (hin2 : meth.name = "<init>") (hdecl : (T k).1 = own) {ty : FieldType} {v : Value} (hd : parseFieldDescriptor (T k).2.2.1 = some ty) (hn : narrow ty v = v) (hfit : fits ty v = true) (hl : k < fs.length)
    (hdg : decode cc pc = .ok (.putfield index, 3)) (kk : ∀ (H1 : Heap) (locs1 : List Loc), va_P D cl (ws.set q0 (a, .inr (ci, fs.set k v))) H1 → va_D A (ws.set q0 (a, .inr (ci, fs.set k v))) → va_S A H0 H1 locs1 → H1.size = H.size → W p l e R s m args below meth c H1 locs1 cells slots Q (F0 m (pc + 3) ls rest)) : W p l e R s m args below meth c H locs cells slots Q (F0 m pc ls (v :: .ref a :: rest)) := by
  have hap := va_apart (own := own) hts hin ty0 hty hnm hK hc
  obtain ⟨r, h1, cell, q1, q2, q3, q4⟩ := hP q0 _ he
  have hr : r = (C, T, N) := Option.some.inj (h1.symm.trans hc)
  subst hr
  obtain ⟨hS, hfc, kC, hkC, hkind⟩ := hK.1 ci _ hc
  obtain ⟨cf, kf, fi, f, hi, hsl⟩ := hS k hk
  have hlay := hts _ (hin _ (u_in_lay hk))
  unfold u_lay at hlay
  rw [if_pos hfin] at hlay
  have hst := (u_facts hfc hkC (u_lays hts hin hk) hi).1
  have hcf : m.cls = cf := by
    obtain ⟨_, _, c', _, _, _, -, -, hf', -, -, -, hown2, -⟩ := Cond.laysFinal_spec hlay
    have e1 : c' = cf := by have := hi.symm.trans hf'; simp at this; exact this.1.symm
    rw [hdecl] at hown2
    rw [← e1]; exact Option.some.inj (hown.symm.trans hown2)
  have h6 := u_fits hfc hkC hkind (Or.inr hlay) hi hd hn hfit
  refine W.putFinK hexec hb hown hlink (hsame _ hi) hst hcf hin2 (by rw [q2]; exact h6) q1 q3 (by rw [hsl]; exact k2_hasslot (q4 k hk)) rfl rfl hdg fun H' e1 e2 e3 => ?_
  rw [hsl] at e1 ⊢
  exact kk H' _ (hP.set hD he ⟨_, hc, t_OB.to (V := updV (vp_V fs) k v) ⟨_, e1, q2, q3, t_set q4 hap hk v⟩ (fun j _ => vp_updV_set hl v j)⟩ e3) (hD.set he) (hS0.put e2 e3 (hD.2 q0 _ he)) e2
theorem va_putz (hexec : p.tables.exec = Jvm.exec) (hb : c.code = cc) {own ref C : String} {T : u_T} {N ci index : Nat} {Ts : List Cond} (hts : ∀ w ∈ Ts, w.before args s = true) (hin : ∀ w ∈ u_ws C T N, w ∈ Ts) (ty0 : Nat → FieldType) (hty : ∀ k, k < N → parseFieldDescriptor (T k).2.2.1 = some (ty0 k)) (hnm : ∀ a, a < N → ∀ b, b < N → a ≠ b → (T a).2.1 ≠ (T b).2.1) (hown : s.vm.findClass own = some m.cls) (hK : va_K D cl tys s) (hP : va_P D cl ws H) (hD : va_D A ws) (hS0 : va_S A H0 H locs) (q0 : Nat) {fs : List Value} (he : ws[q0]? = some (a, .inr (ci, fs))) (hc : cl[ci]? = some (C, T, N)) (k : Nat) (hk : k < N)
    (hlink : (Cond.fieldLink own index ref (T k).2.1 (T k).2.2.1).before args s = true) (hsame : ∀ x, s.fieldFound? (T k).1 (T k).2.1 (T k).2.2.1 = some x → s.fieldFound? ref (T k).2.1 (T k).2.2.1 = some x) (hfin : (T k).2.2.2 = false) {ty : FieldType} {v : Value} (hd : parseFieldDescriptor (T k).2.2.1 = some ty) (hn : narrow ty v = v) (hfit : fits ty v = true) (hl : k < fs.length)
    (hdg : decode cc pc = .ok (.putfield index, 3)) (kk : ∀ (H1 : Heap) (locs1 : List Loc), va_P D cl (ws.set q0 (a, .inr (ci, fs.set k v))) H1 → va_D A (ws.set q0 (a, .inr (ci, fs.set k v))) → va_S A H0 H1 locs1 → H1.size = H.size → W p l e R s m args below meth c H1 locs1 cells slots Q (F0 m (pc + 3) ls rest)) : W p l e R s m args below meth c H locs cells slots Q (F0 m pc ls (v :: .ref a :: rest)) := by
  have hap := va_apart (own := own) hts hin ty0 hty hnm hK hc
  obtain ⟨r, h1, cell, q1, q2, q3, q4⟩ := hP q0 _ he
  have hr : r = (C, T, N) := Option.some.inj (h1.symm.trans hc)
  subst hr
  obtain ⟨hS, hfc, kC, hkC, hkind⟩ := hK.1 ci _ hc
  obtain ⟨cf, kf, fi, f, hi, hsl⟩ := hS k hk
  have hlay := hts _ (hin _ (u_in_lay hk))
  unfold u_lay at hlay
  rw [if_neg (by rw [hfin]; decide)] at hlay
  have hst := (u_facts hfc hkC (u_lays hts hin hk) hi).1
  have h6 := u_store hfc hkC hkind hlay hi hd hn hfit
  refine W.putK hexec hb (f := f) ⟨hown, hlink, ⟨_, _, _, hsame _ hi⟩, hst⟩ (by rw [q2]; exact h6) q1 q3 (by rw [hsl]; exact k2_hasslot (q4 k hk)) rfl rfl hdg fun H' e1 e2 e3 => ?_
  rw [hsl] at e1 ⊢
  exact kk H' _ (hP.set hD he ⟨_, hc, t_OB.to (V := updV (vp_V fs) k v) ⟨_, e1, q2, q3, t_set q4 hap hk v⟩ (fun j _ => vp_updV_set hl v j)⟩ e3) (hD.set he) (hS0.put e2 e3 (hD.2 q0 _ he)) e2
end PutZ
section GcRules
variable {D : va_G} {cy : Nat → ClassId} {X0 : Nat → Prop} {ad : Nat → Nat} {d kc ks : Nat} {y : MI} {PQ : Array Value → State → Outcome → State → Prop} {PX : String → State → State → Prop} {pc : Nat} {ls st : List Value} {ws W0 L : va_W} {h : Nat}
theorem gc_use (K : gc D cy X0 ad d kc ks y PQ PX pc ls st ws h) {p : Program} {l : Launch} {e : Env} {R : Room} {s : State} {m : MethodId} {args : Array Value} {below : List Frame} {meth : Method} {c : Code} {mc ms : Nat} (hc : cx 0 d y p l R s m args meth c D cy X0 mc ms 0 ad) (ho : ao s) {H : Heap} {locs : List Loc} {cells slots : Nat} {lsA : Array Slot}
    (hP : va_P D vwCl ws H) (hD : va_D (far X0) ws) (hz : H.size = h) (hS : va_S (far X0) s.heap H locs) (hl : lh ad lsA y.2.2.1 ls) (h1 : cells + kc ≤ mc) (h2 : slots + ks ≤ ms) : W p l e R s m args below meth c H locs cells slots (vx_MQ below PQ PX args s mc ms (far X0)) (F0 m pc lsA (st.map (av_l ad))) :=
  K p l e R s m args below meth c mc ms hc ho H locs cells slots lsA hP hD hz hS hl h1 h2
theorem gc_iconst {n : Int} (hd : decode y.2.1 pc = .ok (.iconst n, 1)) (K : gc D cy X0 ad d kc ks y PQ PX (pc + 1) ls (.int (iI n) :: st) ws h) : gc D cy X0 ad d kc ks y PQ PX pc ls st ws h := by
  intro p l e R s m args below meth c mc ms hc ho H locs cells slots lsA hP hD hz hS hl h1 h2
  exact lv_iconst hc.1 hc.2.1 hd rfl (gc_use K hc ho hP hD hz hS hl h1 h2)
theorem gc_bipush {n : Int} (hd : decode y.2.1 pc = .ok (.bipush n, 2)) (hn : -128 ≤ n ∧ n < 128) (K : gc D cy X0 ad d kc ks y PQ PX (pc + 2) ls (.int (iI n) :: st) ws h) : gc D cy X0 ad d kc ks y PQ PX pc ls st ws h := by
  intro p l e R s m args below meth c mc ms hc ho H locs cells slots lsA hP hD hz hS hl h1 h2
  have e1 : (Int8.ofInt n).toInt32 = iI n := by
    apply Int32.toInt_inj.mp
    rw [iI_t ⟨by omega, by omega⟩, Int8.toInt_toInt32, Int8.toInt_ofInt_of_le hn.1 hn.2]
  exact lv_bipush hc.1 hc.2.1 hd e1 (gc_use K hc ho hP hD hz hS hl h1 h2)
theorem gc_sipush {n : Int} (hd : decode y.2.1 pc = .ok (.sipush n, 3)) (hn : -32768 ≤ n ∧ n < 32768) (K : gc D cy X0 ad d kc ks y PQ PX (pc + 3) ls (.int (iI n) :: st) ws h) : gc D cy X0 ad d kc ks y PQ PX pc ls st ws h := by
  intro p l e R s m args below meth c mc ms hc ho H locs cells slots lsA hP hD hz hS hl h1 h2
  have e1 : (Int16.ofInt n).toInt32 = iI n := by
    apply Int32.toInt_inj.mp
    rw [iI_t ⟨by omega, by omega⟩, Int16.toInt_toInt32, Int16.toInt_ofInt_of_le hn.1 hn.2]
  exact lv_sipush hc.1 hc.2.1 hd e1 (gc_use K hc ho hP hD hz hS hl h1 h2)
theorem gc_aload_n {k : Fin 4} {i a : Nat} (hd : decode y.2.1 pc = .ok (.aload_n k, 1)) (hi : (k : Nat) = i) (hv : ls[i]? = some (.ref a)) (K : gc D cy X0 ad d kc ks y PQ PX (pc + 1) ls (.ref a :: st) ws h) : gc D cy X0 ad d kc ks y PQ PX pc ls st ws h := by
  intro p l e R s m args below meth c mc ms hc ho H locs cells slots lsA hP hD hz hS hl h1 h2
  exact lv_aload_n hc.1 hc.2.1 hd hi (lh_at hl hv (by intro h; cases h)) (gc_use K hc ho hP hD hz hS hl h1 h2)
theorem gc_iload_n {k : Fin 4} {i : Nat} {v : Int} (hd : decode y.2.1 pc = .ok (.iload_n k, 1)) (hi : (k : Nat) = i) (hv : ls[i]? = some (.int (iI v))) (K : gc D cy X0 ad d kc ks y PQ PX (pc + 1) ls (.int (iI v) :: st) ws h) : gc D cy X0 ad d kc ks y PQ PX pc ls st ws h := by
  intro p l e R s m args below meth c mc ms hc ho H locs cells slots lsA hP hD hz hS hl h1 h2
  exact lv_iload_n hc.1 hc.2.1 hd hi (lh_at hl hv (by intro h; cases h)) (gc_use K hc ho hP hD hz hS hl h1 h2)
theorem gc_istore_n {k : Fin 4} {i : Nat} {v : Int} (hd : decode y.2.1 pc = .ok (.istore_n k, 1)) (hi : (k : Nat) = i) (hn : i < y.2.2.1) (K : gc D cy X0 ad d kc ks y PQ PX (pc + 1) (ls.set i (.int (iI v))) st ws h) : gc D cy X0 ad d kc ks y PQ PX pc ls (.int (iI v) :: st) ws h := by
  intro p l e R s m args below meth c mc ms hc ho H locs cells slots lsA hP hD hz hS hl h1 h2
  exact lv_istore_n hc.1 hc.2.1 hd hi (lh_has hl) hn rfl (fun lsB hB => gc_use K hc ho hP hD hz hS (lh_set hl rfl hB) h1 h2)
theorem gc_istore {i : Nat} {v : Int} (hd : decode y.2.1 pc = .ok (.istore i, 2)) (hn : i < y.2.2.1) (K : gc D cy X0 ad d kc ks y PQ PX (pc + 2) (ls.set i (.int (iI v))) st ws h) : gc D cy X0 ad d kc ks y PQ PX pc ls (.int (iI v) :: st) ws h := by
  intro p l e R s m args below meth c mc ms hc ho H locs cells slots lsA hP hD hz hS hl h1 h2
  exact lv_istore hc.1 hc.2.1 hd (lh_has hl) hn rfl (fun lsB hB => gc_use K hc ho hP hD hz hS (lh_set hl rfl hB) h1 h2)
theorem gc_astore_n {k : Fin 4} {i a : Nat} (hd : decode y.2.1 pc = .ok (.astore_n k, 1)) (hi : (k : Nat) = i) (hn : i < y.2.2.1) (K : gc D cy X0 ad d kc ks y PQ PX (pc + 1) (ls.set i (.ref a)) st ws h) : gc D cy X0 ad d kc ks y PQ PX pc ls (.ref a :: st) ws h := by
  intro p l e R s m args below meth c mc ms hc ho H locs cells slots lsA hP hD hz hS hl h1 h2
  exact lv_astore_n hc.1 hc.2.1 hd hi (lh_has hl) hn rfl (fun lsB hB => gc_use K hc ho hP hD hz hS (lh_set (v := .ref a) hl rfl hB) h1 h2)
theorem gc_astore {i a : Nat} (hd : decode y.2.1 pc = .ok (.astore i, 2)) (hn : i < y.2.2.1) (K : gc D cy X0 ad d kc ks y PQ PX (pc + 2) (ls.set i (.ref a)) st ws h) : gc D cy X0 ad d kc ks y PQ PX pc ls (.ref a :: st) ws h := by
  intro p l e R s m args below meth c mc ms hc ho H locs cells slots lsA hP hD hz hS hl h1 h2
  exact lv_astore hc.1 hc.2.1 hd (lh_has hl) hn rfl (fun lsB hB => gc_use K hc ho hP hD hz hS (lh_set (v := .ref a) hl rfl hB) h1 h2)
theorem gc_dup {v : Value} (hd : decode y.2.1 pc = .ok (.dup, 1)) (hv : v.category = 1) (K : gc D cy X0 ad d kc ks y PQ PX (pc + 1) ls (v :: v :: st) ws h) : gc D cy X0 ad d kc ks y PQ PX pc ls (v :: st) ws h := by
  intro p l e R s m args below meth c mc ms hc ho H locs cells slots lsA hP hD hz hS hl h1 h2
  exact lv_dup hc.1 hc.2.1 hd (by rw [av_cat]; exact hv) (gc_use K hc ho hP hD hz hS hl h1 h2)
theorem gc_goto {off : Int} {tgt : Nat} (hd : decode y.2.1 pc = .ok (.goto off, 3)) (ht : (pc : Int) + off = (tgt : Int)) (K : gc D cy X0 ad d kc ks y PQ PX tgt ls st ws h) : gc D cy X0 ad d kc ks y PQ PX pc ls st ws h := by
  intro p l e R s m args below meth c mc ms hc ho H locs cells slots lsA hP hD hz hS hl h1 h2
  exact lv_goto hc.1 hc.2.1 hd ht (gc_use K hc ho hP hD hz hS hl h1 h2)
theorem gc_iinc {i : Nat} {n v : Int} (hd : decode y.2.1 pc = .ok (.iinc i n, 3)) (hv : ls[i]? = some (.int (iI v))) (hn : i < y.2.2.1) (K : gc D cy X0 ad d kc ks y PQ PX (pc + 3) (ls.set i (.int (iI (v + n)))) st ws h) : gc D cy X0 ad d kc ks y PQ PX pc ls st ws h := by
  intro p l e R s m args below meth c mc ms hc ho H locs cells slots lsA hP hD hz hS hl h1 h2
  obtain ⟨k, hk⟩ := List.getElem?_of_mem (lh_mem (ad := ad) hv (by intro h; cases h))
  exact lv_iinc hc.1 hc.2.1 hd (lh_has hl) hk (by rw [← iI_add]; rfl) hn rfl (fun lsB hB => gc_use K hc ho hP hD hz hS (lh_set hl rfl hB) h1 h2)
theorem gc_icmp_ge {a b : Int} {off : Int} {tgt : Nat} (hd : decode y.2.1 pc = .ok (.if_icmp .ge off, 3)) (ht : (pc : Int) + off = (tgt : Int)) (ha : rng a) (hb : rng b) (kt : b ≤ a → gc D cy X0 ad d kc ks y PQ PX tgt ls st ws h) (kf : a < b → gc D cy X0 ad d kc ks y PQ PX (pc + 3) ls st ws h) : gc D cy X0 ad d kc ks y PQ PX pc ls (.int (iI b) :: .int (iI a) :: st) ws h := by
  intro p l e R s m args below meth c mc ms hc ho H locs cells slots lsA hP hD hz hS hl h1 h2
  exact lv_icmp_ge hc.1 hc.2.1 hd ht (fun q => gc_use (kt ((iI_le hb ha).mp q)) hc ho hP hD hz hS hl h1 h2) (fun q => gc_use (kf (Int.not_le.mp (fun q2 => q ((iI_le hb ha).mpr q2)))) hc ho hP hD hz hS hl h1 h2)
theorem gc_if_eq {a : Int} {off : Int} {tgt : Nat} (hd : decode y.2.1 pc = .ok (.ifCond .eq off, 3)) (ht : (pc : Int) + off = (tgt : Int)) (ha : a = 1) (K : gc D cy X0 ad d kc ks y PQ PX (pc + 3) ls st ws h) : gc D cy X0 ad d kc ks y PQ PX pc ls (.int (iI a) :: st) ws h := by
  intro p l e R s m args below meth c mc ms hc ho H locs cells slots lsA hP hD hz hS hl h1 h2
  subst ha
  exact lv_if_eq hc.1 hc.2.1 hd ht (fun q => absurd q (by decide)) (fun q => gc_use K hc ho hP hD hz hS hl h1 h2)
/-- Object's constructor -/
theorem gc_obj {idx a : Nat} (hd : decode y.2.1 pc = .ok (.invokespecial idx, 3)) (hlk : Cond.methodLink y.1.cls idx Lib.objectInit ∈ aw) (hdp : 1 ≤ d) (hW : (st.map fun v => v.category).sum ≤ 8) (K : gc D cy X0 ad d kc ks y PQ PX (pc + 3) ls st ws h) : gc D cy X0 ad d kc ks y PQ PX pc ls (.ref a :: st) ws h := by
  intro p l e R s m args below meth c mc ms hc ho H locs cells slots lsA hP hD hz hS hl h1 h2
  obtain ⟨c1, c2, c3, c4, c5, c6, c7, c8, c9, c10, c11, c12, c13, c14, c15, c16, c17, c18, c19⟩ := id hc
  have hr := lv_room (ls := lsA) (pc := pc) (m := m) (rest := (Value.ref a :: st).map (av_l ad)) (st := st.map (av_l ad)) (by rw [av_sum]; exact hW)
  refine W.objInit c1 c2 c5 (c6 _ hlk) (c6 _ (tb_in 39 (by decide +kernel) (by decide +kernel))) (c6 _ (tb_in 40 (by decide +kernel) (by decide +kernel))) (g := F0 m pc lsA ((.ref a :: st).map (av_l ad))) rfl (by rw [c4]; exact hl.1) rfl hd (Nat.le_trans hdp c11) ?_ ?_
  · show 2 * (F0 m pc lsA ((Value.ref a :: st).map (av_l ad))).monitorRoom + ((st.map (av_l ad)).map fun v => v.category).sum + 12 ≤ R.locals
    omega
  exact gc_use K hc ho hP hD hz hS hl h1 h2
theorem gc_new {idx N ci k : Nat} {C : String} {T : u_T} {fs : List Value} (hd : decode y.2.1 pc = .ok (.new idx, 3)) (hcl : Cond.classLink y.1.cls idx C ∈ aw) (hinst : Cond.instantiable C N ∈ aw) (hini : Cond.initialized C ∈ aw) (ia : ∀ w ∈ u_ws C T N, w ∈ aw) (ty : Nat → FieldType) (hty : ∀ k, k < N → parseFieldDescriptor (T k).2.2.1 = some (ty k)) (hci : vwCl[ci]? = some (C, T, N))
    (hfs : ∀ j, j < N → defaultValue (ty j) = vp_V fs j) (hk : ad k = h) (K : gc D cy X0 ad d kc ks y PQ PX (pc + 3) ls (.ref k :: st) (W0 ++ (L ++ [(ad k, .inr (ci, fs))])) (h + 1)) : gc D cy X0 ad d (kc + 1) (ks + N) y PQ PX pc ls st (W0 ++ L) h := by
  intro p l e R s m args below meth c mc ms hc ho H locs cells slots lsA hP hD hz hS hl h1 h2
  obtain ⟨c1, c2, c3, c4, c5, c6, c7, c8, c9, c10, c11, c12, c13, c14, c15, c16, c17, c18, c19⟩ := id hc
  have hKn := c8.1.1 ci _ hci
  have hA : ∀ q : Nat, s.heap.size ≤ q → far X0 q := fun q w => c15 q w
  subst hz
  refine W.newcK c1 c2 c5 (c6 _ hcl) (c6 _ hinst) (c6 _ hini) rfl hd (by omega) (by omega) hKn.2.1 rfl fun H1 kC hkC e1 z1 o1 => ?_
  have hk2 : ∀ (k : Nat) (x : Nat × va_E), (W0 ++ L)[k]? = some x → H1[x.1]? = H[x.1]? := fun k x hx => o1 x.1 ((hP k x hx).lt)
  show W p l e R s m args below meth c H1 locs (cells + 1) (slots + N) _ (F0 m (pc + 3) lsA (Value.ref H.size :: st.map (av_l ad)))
  have e9 : Value.ref H.size = av_l ad (.ref k) := by show _ = Value.ref (ad k); rw [hk]
  rw [e9]
  refine gc_use K hc ho (by
    rw [hk, ← List.append_assoc]
    refine (hP.kept hk2).app (fun k x hx => ?_)
    have hz : k < 1 := (List.getElem?_eq_some_iff.mp hx).1
    rw [show k = 0 by omega] at hx
    cases hx
    exact ⟨_, hci, (u_born ty c6 ia hKn hkC e1 hty).to hfs⟩) (by rw [hk, ← List.append_assoc]; exact hD.push hP rfl (hA _ hS.1)) z1 ⟨Nat.le_trans hS.1 (by omega), fun x h1 h2 => (o1 x (Nat.lt_of_lt_of_le h1 hS.1)).trans (hS.2.1 x h1 h2), hS.2.2⟩ hl (by omega) (by omega)
theorem gc_newa {N k t : Nat} {i : Int} {atype : ArrayType} {ty : FieldType} {a0 : vp_A} (hd : decode y.2.1 pc = .ok (.newarray atype, 2)) (hat : newarray.typeOf atype = ty) (harr : Cond.arrayClass ty ∈ aw) (ha : ∀ cA : ClassId, vp_cell cA a0 = arrV cA N (fun _ => defaultValue ty)) (ht : (tys cy)[t]? = some (cy t, ty))
    (hi : i = (N : Int)) (hN : N ≤ 4000) (hb : N * componentBytes ty ≤ 536870912) (hk : ad k = h) (K : gc D cy X0 ad d kc ks y PQ PX (pc + 2) ls (.ref k :: st) (W0 ++ (L ++ [(ad k, .inl (cy t, a0))])) (h + 1)) : gc D cy X0 ad d (kc + 1) (ks + N) y PQ PX pc ls (.int (iI i) :: st) (W0 ++ L) h := by
  intro p l e R s m args below meth c mc ms hc ho H locs cells slots lsA hP hD hz hS hl h1 h2
  obtain ⟨c1, c2, c3, c4, c5, c6, c7, c8, c9, c10, c11, c12, c13, c14, c15, c16, c17, c18, c19⟩ := id hc
  have hRA := (c8.1.2 t _ ht).2
  have hA : ∀ q : Nat, s.heap.size ≤ q → far X0 q := fun q w => c15 q w
  subst hz hat hi
  refine va_newaK c1 c2 (c6 _ harr) rfl hd rfl (N := N) (by
    show ¬ iI (N : Int) < iI 0
    rw [iI_lt ⟨by omega, by omega⟩ rng0]
    omega) (iI_clamp (by omega)) hb (by omega) (by omega) (h := H.size) rfl fun H1 cA e1 z1 o1 hAr hNm => ?_
  have hcA : cA = cy t := by
    have h3 : s.vm.findClass ("[" ++ (newarray.typeOf atype).toString) = some (cy t) := by cases atype <;> exact hRA
    exact Option.some.inj (hNm.symm.trans h3)
  subst hcA
  have hk2 : ∀ (k : Nat) (x : Nat × va_E), (W0 ++ L)[k]? = some x → H1[x.1]? = H[x.1]? := fun k x hx => o1 x.1 ((hP k x hx).lt)
  show W p l e R s m args below meth c H1 locs (cells + 1) (slots + N) _ (F0 m (pc + 2) lsA (Value.ref H.size :: st.map (av_l ad)))
  have e9 : Value.ref H.size = av_l ad (.ref k) := by show _ = Value.ref (ad k); rw [hk]
  rw [e9]
  refine gc_use K hc ho (by
    rw [hk, ← List.append_assoc]
    refine (hP.kept hk2).app (fun k x hx => ?_)
    have hz : k < 1 := (List.getElem?_eq_some_iff.mp hx).1
    rw [show k = 0 by omega] at hx
    cases hx
    show H1[H.size]? = some (vp_cell _ _)
    rw [ha]
    exact e1) (by rw [hk, ← List.append_assoc]; exact hD.push hP rfl (hA _ hS.1)) z1 ⟨Nat.le_trans hS.1 (by omega), fun x h1 h2 => (o1 x (Nat.lt_of_lt_of_le h1 hS.1)).trans (hS.2.1 x h1 h2), hS.2.2⟩ hl (by omega) (by omega)
theorem gc_newq {N k idx : Nat} {i : Int} (hd : decode y.2.1 pc = .ok (.anewarray idx, 3)) (hcl : Cond.classLink y.1.cls idx "BarberParliament$Chamber" ∈ aw) (hi : i = (N : Int)) (hN : N ≤ 4000) (hk : ad k = h)
    (K : gc D cy X0 ad d kc ks y PQ PX (pc + 3) ls (.ref k :: st) (W0 ++ (L ++ [(ad k, .inl (cy 3, N, .inr (.inr (.inr (.inr (fun _ => none))))))])) (h + 1)) : gc D cy X0 ad d (kc + 1) (ks + N) y PQ PX pc ls (.int (iI i) :: st) (W0 ++ L) h := by
  intro p l e R s m args below meth c mc ms hc ho H locs cells slots lsA hP hD hz hS hl h1 h2
  obtain ⟨c1, c2, c3, c4, c5, c6, c7, c8, c9, c10, c11, c12, c13, c14, c15, c16, c17, c18, c19⟩ := id hc
  have hRA := (c8.1.2 3 _ rfl).2
  have hA : ∀ q : Nat, s.heap.size ≤ q → far X0 q := fun q w => c15 q w
  subst hz hi
  have eN : (iI (N : Int)).toNatClampNeg = N := iI_clamp (by omega)
  refine W.anew c1 c2 c5 (c6 _ hcl) (va_AO.use ho.1) rfl hd rfl (by
    show ¬ iI (N : Int) < iI 0
    rw [iI_lt ⟨by omega, by omega⟩ rng0]
    omega) (by rw [eN]; omega) (by omega) (by rw [eN]; omega) fun cA kA comp f1 f2 f3 f4 => ?_
  rw [eN]
  obtain ⟨kA9, comp9, -, -, -, h3⟩ := hRA
  have hcA : cA = cy 3 := Option.some.inj (f1.symm.trans h3)
  subst hcA
  generalize hH1 : H.push ({ cls := cy 3, slots := Array.replicate N .null, vm := .none } : Cell) = H1
  have z1 : H1.size = H.size + 1 := by rw [← hH1, Array.size_push]
  have e1 : H1[H.size]? = some (arrV (cy 3) N (fun _ => .null)) := by rw [← hH1, Array.getElem?_push_size, ← arrV_new]
  have o1 : ∀ q : Nat, q < H.size → H1[q]? = H[q]? := fun q hq => by rw [← hH1, Array.getElem?_push, if_neg (Nat.ne_of_lt hq)]
  have hk2 : ∀ (k : Nat) (x : Nat × va_E), (W0 ++ L)[k]? = some x → H1[x.1]? = H[x.1]? := fun k x hx => o1 x.1 ((hP k x hx).lt)
  show W p l e R s m args below meth c H1 locs (cells + 1) (slots + N) _ (F0 m (pc + 3) lsA (Value.ref H.size :: st.map (av_l ad)))
  have e9 : Value.ref H.size = av_l ad (.ref k) := by show _ = Value.ref (ad k); rw [hk]
  rw [e9]
  refine gc_use K hc ho (by
    rw [hk, ← List.append_assoc]
    refine (hP.kept hk2).app (fun k x hx => ?_)
    have hz : k < 1 := (List.getElem?_eq_some_iff.mp hx).1
    rw [show k = 0 by omega] at hx
    cases hx
    show H1[H.size]? = some (vp_cell _ _)
    rw [vp_cell_q]
    exact e1) (by rw [hk, ← List.append_assoc]; exact hD.push hP rfl (hA _ hS.1)) z1 ⟨Nat.le_trans hS.1 (by omega), fun x h1 h2 => (o1 x (Nat.lt_of_lt_of_le h1 hS.1)).trans (hS.2.1 x h1 h2), hS.2.2⟩ hl (by omega) (by omega)
theorem gc_newo {N k idx : Nat} {i : Int} (hd : decode y.2.1 pc = .ok (.anewarray idx, 3)) (hcl : Cond.classLink y.1.cls idx "BarberParliamentLaw$Own" ∈ aw) (hi : i = (N : Int)) (hN : N ≤ 4000) (hk : ad k = h)
    (K : gc D cy X0 ad d kc ks y PQ PX (pc + 3) ls (.ref k :: st) (W0 ++ (L ++ [(ad k, .inl (cy 4, N, .inr (.inr (.inr (.inr (fun _ => none))))))])) (h + 1)) : gc D cy X0 ad d (kc + 1) (ks + N) y PQ PX pc ls (.int (iI i) :: st) (W0 ++ L) h := by
  intro p l e R s m args below meth c mc ms hc ho H locs cells slots lsA hP hD hz hS hl h1 h2
  obtain ⟨c1, c2, c3, c4, c5, c6, c7, c8, c9, c10, c11, c12, c13, c14, c15, c16, c17, c18, c19⟩ := id hc
  have hRA := (c8.1.2 4 _ rfl).2
  have hA : ∀ q : Nat, s.heap.size ≤ q → far X0 q := fun q w => c15 q w
  subst hz hi
  have eN : (iI (N : Int)).toNatClampNeg = N := iI_clamp (by omega)
  refine W.anew c1 c2 c5 (c6 _ hcl) (va_AO.use ho.2) rfl hd rfl (by
    show ¬ iI (N : Int) < iI 0
    rw [iI_lt ⟨by omega, by omega⟩ rng0]
    omega) (by rw [eN]; omega) (by omega) (by rw [eN]; omega) fun cA kA comp f1 f2 f3 f4 => ?_
  rw [eN]
  obtain ⟨kA9, comp9, -, -, -, h3⟩ := hRA
  have hcA : cA = cy 4 := Option.some.inj (f1.symm.trans h3)
  subst hcA
  generalize hH1 : H.push ({ cls := cy 4, slots := Array.replicate N .null, vm := .none } : Cell) = H1
  have z1 : H1.size = H.size + 1 := by rw [← hH1, Array.size_push]
  have e1 : H1[H.size]? = some (arrV (cy 4) N (fun _ => .null)) := by rw [← hH1, Array.getElem?_push_size, ← arrV_new]
  have o1 : ∀ q : Nat, q < H.size → H1[q]? = H[q]? := fun q hq => by rw [← hH1, Array.getElem?_push, if_neg (Nat.ne_of_lt hq)]
  have hk2 : ∀ (k : Nat) (x : Nat × va_E), (W0 ++ L)[k]? = some x → H1[x.1]? = H[x.1]? := fun k x hx => o1 x.1 ((hP k x hx).lt)
  show W p l e R s m args below meth c H1 locs (cells + 1) (slots + N) _ (F0 m (pc + 3) lsA (Value.ref H.size :: st.map (av_l ad)))
  have e9 : Value.ref H.size = av_l ad (.ref k) := by show _ = Value.ref (ad k); rw [hk]
  rw [e9]
  refine gc_use K hc ho (by
    rw [hk, ← List.append_assoc]
    refine (hP.kept hk2).app (fun k x hx => ?_)
    have hz : k < 1 := (List.getElem?_eq_some_iff.mp hx).1
    rw [show k = 0 by omega] at hx
    cases hx
    show H1[H.size]? = some (vp_cell _ _)
    rw [vp_cell_q]
    exact e1) (by rw [hk, ← List.append_assoc]; exact hD.push hP rfl (hA _ hS.1)) z1 ⟨Nat.le_trans hS.1 (by omega), fun x h1 h2 => (o1 x (Nat.lt_of_lt_of_le h1 hS.1)).trans (hS.2.1 x h1 h2), hS.2.2⟩ hl (by omega) (by omega)
/-- a final field of this -/
theorem gc_putF (i : Nat) {idx ci j a : Nat} {v : Value} {t : FieldType} {fs : List Value} (hd : decode y.2.1 pc = .ok (.putfield idx, 3)) (hf : flkF y.1.cls idx ci j t) (hnm : y.1.name = "<init>") (hi : L[i]? = some (ad a, .inr (ci, fs))) (hn : narrow t (av_l ad v) = av_l ad v) (hfit : fits t (av_l ad v) = true) (hlt : j < fs.length)
    (K : gc D cy X0 ad d kc ks y PQ PX (pc + 3) ls st (W0 ++ L.set i (ad a, .inr (ci, fs.set j (av_l ad v)))) h) : gc D cy X0 ad d kc ks y PQ PX pc ls (v :: .ref a :: st) (W0 ++ L) h := by
  intro p l e R s m args below meth c mc ms hc ho H locs cells slots lsA hP hD hz hS hl h1 h2
  obtain ⟨c1, c2, c3, c4, c5, c6, c7, c8, c9, c10, c11, c12, c13, c14, c15, c16, c17, c18, c19⟩ := id hc
  obtain ⟨C, T, N, ty, f1, f2, f3, f4, f5, f6, f7, f8, f9, f10⟩ := hf
  refine va_putFz (Ts := aw) (v := av_l ad v) (ty := t) c1 c2 c6 f4 ty f5 f6 c5 c8.1 hP hD hS (W0.length + i) (ap_get hi) f1 j f2 (c6 _ f3) (fun x h => by rw [f7] at h; exact h) f8 (c17.trans hnm) f9 f10 hn hfit hlt hd (fun H1 locs1 hP1 hD1 hS1 hz1 => ?_)
  rw [ap_set] at hP1 hD1
  exact gc_use K hc ho hP1 hD1 (hz1.trans hz) hS1 hl h1 h2
end GcRules
