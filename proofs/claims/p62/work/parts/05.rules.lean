/-! WHAT THE LAUNCH GIVES FOR GOOD -/
/-- the String constants: class, place in its pool, text; the i-th lies at ad (7000 + i), its bytes at ad (7200 + i) -/
def sc_l : List (String × Nat × String) := [("BarberParliament", 76, "house 2 1 3 6 5 2 2; member ada 3 4 5; member ben 2 9 0; member cai 5 15 9; member dov 1 12 3; member eli 4 6 1;"), ("BarberParliament$Setup", 55, "house"), ("BarberParliament$Setup", 82, "member"), ("BarberParliament$Setup", 55, "house"), ("BarberParliament$Setup", 55, "house"), ("BarberParliament$Setup", 55, "house"), ("BarberParliament$Setup", 55, "house"), ("BarberParliament$Setup", 55, "house"), ("BarberParliament$Setup", 55, "house"), ("BarberParliament$Setup", 55, "house"), ("BarberParliament$Setup", 55, "house"), ("BarberParliament$Setup", 55, "house"), ("BarberParliament$Setup", 55, "house"), ("BarberParliament$Setup", 55, "house"), ("BarberParliament$Setup", 55, "house"), ("BarberParliament$Setup", 55, "house"), ("BarberParliament$Setup", 55, "house"), ("BarberParliament$Setup", 55, "house"), ("BarberParliament", 95, "the text buffer would hold more than 700 bytes"), ("BarberParliament$Setup", 55, "house"), ("BarberParliament", 413, "there is no such member"), ("BarberParliament", 419, "there is no such motion"), ("BarberParliament", 424, "there is no such chair"), ("BarberParliament", 268, "the chair is free"), ("BarberParliament", 428, "there is no member, motion, chair or ranking with this number"), ("BarberParliament", 430, "the number is out of its range"), ("BarberParliament", 432, "the state of the chamber does not allow this change"), ("BarberParliament", 317, "a forecast reaches from 0 to 300 minutes"), ("BarberParliament", 398, "no change can be undone"), ("BarberParliament$Setup", 55, "house"), ("BarberParliament$Setup", 55, "house"), ("BarberParliamentLaw", 354, "house "), ("BarberParliamentLaw", 365, "member "), ("BarberParliamentLaw", 38, "m")]
def sc_b (tx : String) (j : Nat) : Int32 := Int32.ofNat ((tx.toList.map Char.toNat).getD j 0)
abbrev far (X0 : Nat → Prop) : Nat → Prop := X0
def sc_ok (X0 : Nat → Prop) (ad : Nat → Nat) (U : State) (H : Heap) (i : Nat) (q : String × Nat × String) : Prop :=
  vk_R q.1 q.2.1 q.2.2 (ad (7000 + i)) U ∧ va_O "java/lang/String" (ad (7000 + i)) (far X0) U H ∧ va_OF "java/lang/String" "coder" "B" (.int 0) (ad (7000 + i)) (far X0) U H ∧
  va_OF "java/lang/String" "value" "[B" (.ref (ad (7200 + i))) (ad (7000 + i)) (far X0) U H ∧ va_T .byte (ad (7200 + i)) q.2.2.length (fun j => .int (sc_b q.2.2 j)) (far X0) U H
def nc_l : List (String × String) := []
theorem fw_at {s : State} {args a' : Array Value} {w : Cond} (hw : w ∈ fw) (h : w.before args s = true) : w.before a' s = true := by
  have hg := (List.mem_filter.mp hw).2
  unfold fgood at hg
  rw [Bool.and_eq_true] at hg
  exact va_tabs hg.1 rfl h
theorem fw_moved {s U : State} {args a' : Array Value} (hW : s.WarmedH U.vm) {w : Cond} (hw : w ∈ fw) (h : w.before args s = true) : w.before a' U = true := by
  have hg := (List.mem_filter.mp hw).2
  unfold fgood at hg
  rw [Bool.and_eq_true] at hg
  have hg2 := hg.2
  rw [Bool.or_eq_true] at hg2
  rcases hg2 with g | g
  · have h1 : w.before args (s.setVm U.vm) = true := Cond.before_shiftedFace (State.Shifted.of_warmed hW) w g h
    exact va_tabs hg.1 (show (s.setVm U.vm).vm = U.vm from rfl) h1
  · cases w with
    | methodLinkNest a i x c => exact va_tabs hg.1 rfl (va_Nw.warmM hW (va_tabs hg.1 rfl h))
    | fieldLinkNest a i b n d c => exact va_tabs hg.1 rfl (va_Nw.warmF hW (va_tabs hg.1 rfl h))
    | _ => exact absurd (show false = true from g) (by decide)
/-- a static that holds null or a reference -/
def zn_q (ad : Nat → Nat) (A : Nat → Prop) (U : State) (H : Heap) : Prop := ∃ v : Value, (v = .null ∨ v = .ref (ad 7502)) ∧ va_Z "jdk/internal/util/Preconditions" "SIOOBE_FORMATTER" "Ljava/util/function/BiFunction;" v A U H
theorem zn_moved {ad : Nat → Nat} {A : Nat → Prop} {u U : State} {H H1 : Heap} (hvm : u.vm.Alike U.vm) (hq : ∀ a : Nat, a < H.size → ¬ A a → H1[a]? = H[a]?) (h : zn_q ad A u H) : zn_q ad A U H1 := by
  obtain ⟨v, h1, h2⟩ := h
  exact ⟨v, h1, (va_Z.moved hvm h2).kept hq⟩
def stb (X0 : Nat → Prop) (ad : Nat → Nat) (U : State) (H : Heap) : Prop :=
  (∀ (i : Nat) (q : String × Nat × String), sc_l[i]? = some q → sc_ok X0 ad U H i q) ∧ vx_Zq Bundle.tN "UNASSIGNED_STACK" Bundle.steD (far X0) U H ∧ vx_Zq Bundle.tN "SUPPRESSED_SENTINEL" Bundle.listD (far X0) U H ∧
  va_Z "java/lang/String" "COMPACT_STRINGS" "Z" (.int 1) (far X0) U H ∧ ((∀ q ∈ nc_l, va_Nc q.1 q.2 U) ∧ zn_q ad (far X0) U H) ∧
  va_Z "java/lang/Integer" "DigitOnes" "[B" (.ref (ad 7500)) (far X0) U H ∧ va_T .byte (ad 7500) 100 (fun j => .int (Int32.ofNat (48 + j % 10))) (far X0) U H ∧
  va_Z "java/lang/Integer" "DigitTens" "[B" (.ref (ad 7501)) (far X0) U H ∧ va_T .byte (ad 7501) 100 (fun j => .int (Int32.ofNat (48 + j / 10))) (far X0) U H ∧ (∀ w ∈ fw, w.before #[] U = true)
theorem stb_moved {X0 : Nat → Prop} {ad : Nat → Nat} {s U : State} {H H1 : Heap} (hW : s.WarmedH U.vm) (hq : ∀ a : Nat, a < H.size → ¬ far X0 a → H1[a]? = H[a]?) (h : stb X0 ad s H) : stb X0 ad U H1 := by
  obtain ⟨h1, h2, h3, h4, h5, h6, h7, h8, h9, h10⟩ := h
  have hv := hW.alike
  refine ⟨fun i q hi => ?_, (vx_Zq.moved hv h2).kept hq, (vx_Zq.moved hv h3).kept hq, (va_Z.moved hv h4).kept hq, ⟨fun q hm => ?_, zn_moved hv hq h5.2⟩, (va_Z.moved hv h6).kept hq, (va_T.moved hv h7).kept hq, (va_Z.moved hv h8).kept hq, (va_T.moved hv h9).kept hq, fun w hw => fw_moved hW hw (h10 w hw)⟩
  · obtain ⟨g1, g2, g3, g4, g5⟩ := h1 i q hi
    exact ⟨vk_R.warm hW g1, (va_O.moved hv g2).kept hq, (va_OF.moved hv g3).kept hq, (va_OF.moved hv g4).kept hq, (va_T.moved hv g5).kept hq⟩
  · exact va_Nc.moved hv (h5.1 q hm)
def kx (D : va_G) (cy : Nat → ClassId) (X0 : Nat → Prop) (ad : Nat → Nat) (U : State) (H : Heap) : Prop := va_K D vwCl (tys cy) U ∧ stb X0 ad U H
theorem kx_moved {D : va_G} {cy : Nat → ClassId} {X0 : Nat → Prop} {ad : Nat → Nat} {s U : State} {H H1 : Heap} {locs : List Loc} (hW : s.WarmedH U.vm) (hS : va_S (far X0) H H1 locs) (h : kx D cy X0 ad s H) : kx D cy X0 ad U H1 :=
  ⟨va_K.moved hW.alike h.1, stb_moved hW (fun a ha hn => hS.2.1 a ha hn) h.2⟩
/-- every address from the heap's end on is free -/
def AX (X0 : Nat → Prop) (H : Heap) : Prop := ∀ q : Nat, H.size ≤ q → X0 q
theorem AX_le {X0 : Nat → Prop} {H H1 : Heap} (h : AX X0 H) (hz : H.size ≤ H1.size) : AX X0 H1 := fun q hq => h q (Nat.le_trans hz hq)
/-- a text of L bytes xs: the String at a, its bytes at b -/
def txt (X0 : Nat → Prop) (a b L : Nat) (xs : Nat → Int32) (U : State) (H : Heap) : Prop :=
  va_O "java/lang/String" a X0 U H ∧ va_OF "java/lang/String" "coder" "B" (.int 0) a X0 U H ∧ va_OF "java/lang/String" "value" "[B" (.ref b) a X0 U H ∧ va_T .byte b L (fun j => .int (xs j)) X0 U H
/-- where the law's script lies, or the text that a method is given -/
def scx (y : MI) (X0 : Nat → Prop) (ad : Nat → Nat) (s : State) : Prop := ∀ (L : Nat) (xs : Nat → Int32), (y.2.2.2.2.2 = some (false, L, xs) → va_X (ad 6000) L xs s s.heap ∧ ad 6000 < s.heap.size ∧ ¬ X0 (ad 6000)) ∧ (y.2.2.2.2.2 = some (true, L, xs) → L < 1000 ∧ txt X0 (ad 6100) (ad 6101) L xs s s.heap)
def cx (z d : Nat) (y : MI) (p : Program) (l : Launch) (R : Room) (s : State) (m : MethodId) (args : Array Value) (meth : Method) (c : Code) (D : va_G) (cy : Nat → ClassId) (X0 : Nat → Prop) (mc ms n : Nat) (ad : Nat → Nat) : Prop :=
  p.tables.exec = Jvm.exec ∧ c.code = y.2.1 ∧ meth.sig.returnType = y.2.2.2.1 ∧ c.maxLocals = y.2.2.1 ∧ s.vm.findClass y.1.cls = some m.cls ∧ (∀ w ∈ aw, w.before args s = true) ∧ meth.locks = false ∧
  kx D cy X0 ad s s.heap ∧ z ≤ n ∧ n ≤ 400 ∧ d ≤ R.frames ∧ 40 * d ≤ R.locals ∧ mc ≤ R.cells ∧ ms ≤ R.slots ∧ AX X0 s.heap ∧ c.exceptionTable.toList = tableOf y.2.2.2.2.1 ∧ meth.name = y.1.name ∧ l.stackTraces = false ∧ scx y X0 ad s
/-- the end: an answer r with a memory, or a throw -/
def gQ (D : va_G) (cy : Nat → ClassId) (X0 : Nat → Prop) (n : Nat) (ad : Nat → Nat) (Q : Option Value → Mem → Prop) : Array Value → State → Outcome → State → Prop := fun _ st oc t =>
  (∃ (r : Option Value) (μ : Mem) (dv : UInt64), oc = .returned (r.map (av_l ad)) ∧ Q r μ ∧ wd D cy n ad dv μ X0 t.heap) ∧ va_F X0 st t
def gX (D : va_G) (cy : Nat → ClassId) (X0 : Nat → Prop) (n : Nat) (ad : Nat → Nat) (X : String → Mem → Prop) : String → State → State → Prop := fun E st t =>
  (∃ (μ : Mem) (dv : UInt64), X E μ ∧ wd D cy n ad dv μ X0 t.heap) ∧ va_F X0 st t
/-- GO: in any run, wherever method y stands at pc with these locals, this stack and this memory, z objects at least being made, it comes to an end with Q or X, having made at most kc cells of ks slots, at most d calls deep -/
def go (z d kc ks : Nat) (y : MI) (Q : Option Value → Mem → Prop) (X : String → Mem → Prop) (pc : Nat) (ls st : List Value) (μ : Mem) : Prop :=
  ∀ (p : Program) (l : Launch) (e : Env) (R : Room) (s : State) (m : MethodId) (args : Array Value) (below : List Frame) (meth : Method) (c : Code) (D : va_G) (cy : Nat → ClassId) (X0 : Nat → Prop) (mc ms n : Nat) (ad : Nat → Nat),
    cx z d y p l R s m args meth c D cy X0 mc ms n ad → ∀ (H : Heap) (locs : List Loc) (cells slots : Nat) (lsA : Array Slot) (dv : UInt64),
    wd D cy n ad dv μ X0 H → va_S X0 s.heap H locs → lh ad lsA y.2.2.1 ls → cells + kc ≤ mc → slots + ks ≤ ms →
    W p l e R s m args below meth c H locs cells slots (vx_MQ below (gQ D cy X0 n ad Q) (gX D cy X0 n ad X) args s mc ms X0) (F0 m pc lsA (st.map (av_l ad)))
theorem go_use {z d kc ks : Nat} {y : MI} {Q : Option Value → Mem → Prop} {X : String → Mem → Prop} {pc : Nat} {ls st : List Value} {μ : Mem} (K : go z d kc ks y Q X pc ls st μ) {p : Program} {l : Launch} {e : Env} {R : Room} {s : State} {m : MethodId} {args : Array Value} {below : List Frame} {meth : Method} {c : Code} {D : va_G} {cy : Nat → ClassId} {X0 : Nat → Prop} {mc ms n : Nat} {ad : Nat → Nat}
    (hc : cx z d y p l R s m args meth c D cy X0 mc ms n ad) {H : Heap} {locs : List Loc} {cells slots : Nat} {lsA : Array Slot} {dv : UInt64} (hw : wd D cy n ad dv μ X0 H) (hS : va_S X0 s.heap H locs) (hl : lh ad lsA y.2.2.1 ls) (h1 : cells + kc ≤ mc) (h2 : slots + ks ≤ ms) :
    W p l e R s m args below meth c H locs cells slots (vx_MQ below (gQ D cy X0 n ad Q) (gX D cy X0 n ad X) args s mc ms X0) (F0 m pc lsA (st.map (av_l ad))) :=
  K p l e R s m args below meth c D cy X0 mc ms n ad hc H locs cells slots lsA dv hw hS hl h1 h2
section Rules
variable {z d kc ks : Nat} {y : MI} {Q : Option Value → Mem → Prop} {X : String → Mem → Prop} {pc : Nat} {ls st : List Value} {μ : Mem}
theorem go_iconst {n : Int} (hd : decode y.2.1 pc = .ok (.iconst n, 1)) (K : go z d kc ks y Q X (pc + 1) ls (.int (iI n) :: st) μ) : go z d kc ks y Q X pc ls st μ := by
  intro p l e R s m args below meth c D cy X0 mc ms nn ad hc H locs cells slots lsA dv hw hS hl h1 h2
  exact lv_iconst hc.1 hc.2.1 hd rfl (go_use K hc hw hS hl h1 h2)
theorem go_bipush {n : Int} (hd : decode y.2.1 pc = .ok (.bipush n, 2)) (hn : -128 ≤ n ∧ n < 128) (K : go z d kc ks y Q X (pc + 2) ls (.int (iI n) :: st) μ) : go z d kc ks y Q X pc ls st μ := by
  intro p l e R s m args below meth c D cy X0 mc ms nn ad hc H locs cells slots lsA dv hw hS hl h1 h2
  have e1 : (Int8.ofInt n).toInt32 = iI n := by
    apply Int32.toInt_inj.mp
    rw [iI_t ⟨by omega, by omega⟩, Int8.toInt_toInt32, Int8.toInt_ofInt_of_le hn.1 hn.2]
  exact lv_bipush hc.1 hc.2.1 hd e1 (go_use K hc hw hS hl h1 h2)
theorem go_sipush {n : Int} (hd : decode y.2.1 pc = .ok (.sipush n, 3)) (hn : -32768 ≤ n ∧ n < 32768) (K : go z d kc ks y Q X (pc + 3) ls (.int (iI n) :: st) μ) : go z d kc ks y Q X pc ls st μ := by
  intro p l e R s m args below meth c D cy X0 mc ms nn ad hc H locs cells slots lsA dv hw hS hl h1 h2
  have e1 : (Int16.ofInt n).toInt32 = iI n := by
    apply Int32.toInt_inj.mp
    rw [iI_t ⟨by omega, by omega⟩, Int16.toInt_toInt32, Int16.toInt_ofInt_of_le hn.1 hn.2]
  exact lv_sipush hc.1 hc.2.1 hd e1 (go_use K hc hw hS hl h1 h2)
theorem go_iload_n {k : Fin 4} {i : Nat} {v : Int} (hd : decode y.2.1 pc = .ok (.iload_n k, 1)) (hi : (k : Nat) = i) (hv : ls[i]? = some (.int (iI v))) (K : go z d kc ks y Q X (pc + 1) ls (.int (iI v) :: st) μ) : go z d kc ks y Q X pc ls st μ := by
  intro p l e R s m args below meth c D cy X0 mc ms nn ad hc H locs cells slots lsA dv hw hS hl h1 h2
  exact lv_iload_n hc.1 hc.2.1 hd hi (lh_at hl hv (by intro h; cases h)) (go_use K hc hw hS hl h1 h2)
theorem go_iload {i : Nat} {v : Int} (hd : decode y.2.1 pc = .ok (.iload i, 2)) (hv : ls[i]? = some (.int (iI v))) (K : go z d kc ks y Q X (pc + 2) ls (.int (iI v) :: st) μ) : go z d kc ks y Q X pc ls st μ := by
  intro p l e R s m args below meth c D cy X0 mc ms nn ad hc H locs cells slots lsA dv hw hS hl h1 h2
  exact lv_iload hc.1 hc.2.1 hd (lh_at hl hv (by intro h; cases h)) (go_use K hc hw hS hl h1 h2)
theorem go_aload_n {k : Fin 4} {i a : Nat} (hd : decode y.2.1 pc = .ok (.aload_n k, 1)) (hi : (k : Nat) = i) (hv : ls[i]? = some (.ref a)) (K : go z d kc ks y Q X (pc + 1) ls (.ref a :: st) μ) : go z d kc ks y Q X pc ls st μ := by
  intro p l e R s m args below meth c D cy X0 mc ms nn ad hc H locs cells slots lsA dv hw hS hl h1 h2
  exact lv_aload_n hc.1 hc.2.1 hd hi (lh_at hl hv (by intro h; cases h)) (go_use K hc hw hS hl h1 h2)
theorem go_aload {i a : Nat} (hd : decode y.2.1 pc = .ok (.aload i, 2)) (hv : ls[i]? = some (.ref a)) (K : go z d kc ks y Q X (pc + 2) ls (.ref a :: st) μ) : go z d kc ks y Q X pc ls st μ := by
  intro p l e R s m args below meth c D cy X0 mc ms nn ad hc H locs cells slots lsA dv hw hS hl h1 h2
  exact lv_aload hc.1 hc.2.1 hd (lh_at hl hv (by intro h; cases h)) (go_use K hc hw hS hl h1 h2)
theorem go_istore_n {k : Fin 4} {i : Nat} {v : Int} (hd : decode y.2.1 pc = .ok (.istore_n k, 1)) (hi : (k : Nat) = i) (hn : i < y.2.2.1) (K : go z d kc ks y Q X (pc + 1) (ls.set i (.int (iI v))) st μ) : go z d kc ks y Q X pc ls (.int (iI v) :: st) μ := by
  intro p l e R s m args below meth c D cy X0 mc ms nn ad hc H locs cells slots lsA dv hw hS hl h1 h2
  exact lv_istore_n hc.1 hc.2.1 hd hi (lh_has hl) hn rfl (fun lsB hB => go_use K hc hw hS (lh_set hl rfl hB) h1 h2)
theorem go_istore {i : Nat} {v : Int} (hd : decode y.2.1 pc = .ok (.istore i, 2)) (hn : i < y.2.2.1) (K : go z d kc ks y Q X (pc + 2) (ls.set i (.int (iI v))) st μ) : go z d kc ks y Q X pc ls (.int (iI v) :: st) μ := by
  intro p l e R s m args below meth c D cy X0 mc ms nn ad hc H locs cells slots lsA dv hw hS hl h1 h2
  exact lv_istore hc.1 hc.2.1 hd (lh_has hl) hn rfl (fun lsB hB => go_use K hc hw hS (lh_set hl rfl hB) h1 h2)
theorem go_astore_n {k : Fin 4} {i a : Nat} (hd : decode y.2.1 pc = .ok (.astore_n k, 1)) (hi : (k : Nat) = i) (hn : i < y.2.2.1) (K : go z d kc ks y Q X (pc + 1) (ls.set i (.ref a)) st μ) : go z d kc ks y Q X pc ls (.ref a :: st) μ := by
  intro p l e R s m args below meth c D cy X0 mc ms nn ad hc H locs cells slots lsA dv hw hS hl h1 h2
  exact lv_astore_n hc.1 hc.2.1 hd hi (lh_has hl) hn rfl (fun lsB hB => go_use K hc hw hS (lh_set (v := .ref a) hl rfl hB) h1 h2)
theorem go_astore {i a : Nat} (hd : decode y.2.1 pc = .ok (.astore i, 2)) (hn : i < y.2.2.1) (K : go z d kc ks y Q X (pc + 2) (ls.set i (.ref a)) st μ) : go z d kc ks y Q X pc ls (.ref a :: st) μ := by
  intro p l e R s m args below meth c D cy X0 mc ms nn ad hc H locs cells slots lsA dv hw hS hl h1 h2
  exact lv_astore hc.1 hc.2.1 hd (lh_has hl) hn rfl (fun lsB hB => go_use K hc hw hS (lh_set (v := .ref a) hl rfl hB) h1 h2)
theorem go_iinc {i : Nat} {n v : Int} (hd : decode y.2.1 pc = .ok (.iinc i n, 3)) (hv : ls[i]? = some (.int (iI v))) (hn : i < y.2.2.1) (K : go z d kc ks y Q X (pc + 3) (ls.set i (.int (iI (v + n)))) st μ) : go z d kc ks y Q X pc ls st μ := by
  intro p l e R s m args below meth c D cy X0 mc ms nn ad hc H locs cells slots lsA dv hw hS hl h1 h2
  obtain ⟨k, hk⟩ := List.getElem?_of_mem (lh_mem (ad := ad) hv (by intro h; cases h))
  exact lv_iinc (v := iI (v + n)) hc.1 hc.2.1 hd (lh_has hl) hk (iI_add v n) hn rfl (fun lsB hB => go_use K hc hw hS (lh_set (v := .int (iI (v + n))) hl rfl hB) h1 h2)
theorem go_iadd {a b : Int} (hd : decode y.2.1 pc = .ok (.iadd, 1)) (K : go z d kc ks y Q X (pc + 1) ls (.int (iI (a + b)) :: st) μ) : go z d kc ks y Q X pc ls (.int (iI b) :: .int (iI a) :: st) μ := by
  intro p l e R s m args below meth c D cy X0 mc ms nn ad hc H locs cells slots lsA dv hw hS hl h1 h2
  refine lv_iadd hc.1 hc.2.1 hd ?_
  rw [iI_add]
  exact go_use K hc hw hS hl h1 h2
theorem go_isub {a b : Int} (hd : decode y.2.1 pc = .ok (.isub, 1)) (K : go z d kc ks y Q X (pc + 1) ls (.int (iI (a - b)) :: st) μ) : go z d kc ks y Q X pc ls (.int (iI b) :: .int (iI a) :: st) μ := by
  intro p l e R s m args below meth c D cy X0 mc ms nn ad hc H locs cells slots lsA dv hw hS hl h1 h2
  refine lv_isub hc.1 hc.2.1 hd ?_
  rw [iI_sub]
  exact go_use K hc hw hS hl h1 h2
theorem go_imul {a b : Int} (hd : decode y.2.1 pc = .ok (.imul, 1)) (K : go z d kc ks y Q X (pc + 1) ls (.int (iI (a * b)) :: st) μ) : go z d kc ks y Q X pc ls (.int (iI b) :: .int (iI a) :: st) μ := by
  intro p l e R s m args below meth c D cy X0 mc ms nn ad hc H locs cells slots lsA dv hw hS hl h1 h2
  refine lv_imul hc.1 hc.2.1 hd ?_
  rw [iI_mul]
  exact go_use K hc hw hS hl h1 h2
theorem go_ineg {a : Int} (hd : decode y.2.1 pc = .ok (.ineg, 1)) (K : go z d kc ks y Q X (pc + 1) ls (.int (iI (-a)) :: st) μ) : go z d kc ks y Q X pc ls (.int (iI a) :: st) μ := by
  intro p l e R s m args below meth c D cy X0 mc ms nn ad hc H locs cells slots lsA dv hw hS hl h1 h2
  refine lv_ineg hc.1 hc.2.1 hd ?_
  rw [iI_neg]
  exact go_use K hc hw hS hl h1 h2
theorem go_goto {off : Int} {tgt : Nat} (hd : decode y.2.1 pc = .ok (.goto off, 3)) (ht : (pc : Int) + off = (tgt : Int)) (K : go z d kc ks y Q X tgt ls st μ) : go z d kc ks y Q X pc ls st μ := by
  intro p l e R s m args below meth c D cy X0 mc ms nn ad hc H locs cells slots lsA dv hw hS hl h1 h2
  exact lv_goto hc.1 hc.2.1 hd ht (go_use K hc hw hS hl h1 h2)
theorem go_dup {v : Value} (hd : decode y.2.1 pc = .ok (.dup, 1)) (hv : v.category = 1) (K : go z d kc ks y Q X (pc + 1) ls (v :: v :: st) μ) : go z d kc ks y Q X pc ls (v :: st) μ := by
  intro p l e R s m args below meth c D cy X0 mc ms nn ad hc H locs cells slots lsA dv hw hS hl h1 h2
  exact lv_dup hc.1 hc.2.1 hd (by rw [av_cat]; exact hv) (go_use K hc hw hS hl h1 h2)
theorem go_dup2 {v w : Value} (hd : decode y.2.1 pc = .ok (.dup2, 1)) (hv : v.category = 1) (hv2 : w.category = 1) (K : go z d kc ks y Q X (pc + 1) ls (v :: w :: v :: w :: st) μ) : go z d kc ks y Q X pc ls (v :: w :: st) μ := by
  intro p l e R s m args below meth c D cy X0 mc ms nn ad hc H locs cells slots lsA dv hw hS hl h1 h2
  exact lv_dup2_11 hc.1 hc.2.1 hd (by rw [av_cat]; exact hv) (by rw [av_cat]; exact hv2) (go_use K hc hw hS hl h1 h2)
theorem go_pop {v : Value} (hd : decode y.2.1 pc = .ok (.pop, 1)) (hv : v.category = 1) (K : go z d kc ks y Q X (pc + 1) ls st μ) : go z d kc ks y Q X pc ls (v :: st) μ := by
  intro p l e R s m args below meth c D cy X0 mc ms nn ad hc H locs cells slots lsA dv hw hS hl h1 h2
  exact lv_pop hc.1 hc.2.1 hd (by rw [av_cat]; exact hv) (go_use K hc hw hS hl h1 h2)
theorem go_icmp_eq {a b : Int} {off : Int} {tgt : Nat} (hd : decode y.2.1 pc = .ok (.if_icmp .eq off, 3)) (ht : (pc : Int) + off = (tgt : Int)) (ha : rng a) (hb : rng b) (kt : a = b → go z d kc ks y Q X tgt ls st μ) (kf : a ≠ b → go z d kc ks y Q X (pc + 3) ls st μ) : go z d kc ks y Q X pc ls (.int (iI b) :: .int (iI a) :: st) μ := by
  intro p l e R s m args below meth c D cy X0 mc ms nn ad hc H locs cells slots lsA dv hw hS hl h1 h2
  exact lv_icmp_eq hc.1 hc.2.1 hd ht (fun h => go_use (kt ((iI_eq ha hb).mp h)) hc hw hS hl h1 h2) (fun h => go_use (kf (fun q => h ((iI_eq ha hb).mpr q))) hc hw hS hl h1 h2)
theorem go_if_eq {a : Int} {off : Int} {tgt : Nat} (hd : decode y.2.1 pc = .ok (.ifCond .eq off, 3)) (ht : (pc : Int) + off = (tgt : Int)) (ha : rng a) (kt : a = 0 → go z d kc ks y Q X tgt ls st μ) (kf : a ≠ 0 → go z d kc ks y Q X (pc + 3) ls st μ) : go z d kc ks y Q X pc ls (.int (iI a) :: st) μ := by
  intro p l e R s m args below meth c D cy X0 mc ms nn ad hc H locs cells slots lsA dv hw hS hl h1 h2
  have hb : rng 0 := rng0
  exact lv_if_eq hc.1 hc.2.1 hd ht (fun h => go_use (kt ((iI_eq ha hb).mp h)) hc hw hS hl h1 h2) (fun h => go_use (kf (fun q => h ((iI_eq ha hb).mpr q))) hc hw hS hl h1 h2)
theorem go_icmp_ne {a b : Int} {off : Int} {tgt : Nat} (hd : decode y.2.1 pc = .ok (.if_icmp .ne off, 3)) (ht : (pc : Int) + off = (tgt : Int)) (ha : rng a) (hb : rng b) (kt : a ≠ b → go z d kc ks y Q X tgt ls st μ) (kf : a = b → go z d kc ks y Q X (pc + 3) ls st μ) : go z d kc ks y Q X pc ls (.int (iI b) :: .int (iI a) :: st) μ := by
  intro p l e R s m args below meth c D cy X0 mc ms nn ad hc H locs cells slots lsA dv hw hS hl h1 h2
  exact lv_icmp_ne hc.1 hc.2.1 hd ht (fun h => go_use (kt (fun q => h ((iI_eq ha hb).mpr q))) hc hw hS hl h1 h2) (fun h => go_use (kf ((iI_eq ha hb).mp h)) hc hw hS hl h1 h2)
theorem go_if_ne {a : Int} {off : Int} {tgt : Nat} (hd : decode y.2.1 pc = .ok (.ifCond .ne off, 3)) (ht : (pc : Int) + off = (tgt : Int)) (ha : rng a) (kt : a ≠ 0 → go z d kc ks y Q X tgt ls st μ) (kf : a = 0 → go z d kc ks y Q X (pc + 3) ls st μ) : go z d kc ks y Q X pc ls (.int (iI a) :: st) μ := by
  intro p l e R s m args below meth c D cy X0 mc ms nn ad hc H locs cells slots lsA dv hw hS hl h1 h2
  have hb : rng 0 := rng0
  exact lv_if_ne hc.1 hc.2.1 hd ht (fun h => go_use (kt (fun q => h ((iI_eq ha hb).mpr q))) hc hw hS hl h1 h2) (fun h => go_use (kf ((iI_eq ha hb).mp h)) hc hw hS hl h1 h2)
theorem go_icmp_lt {a b : Int} {off : Int} {tgt : Nat} (hd : decode y.2.1 pc = .ok (.if_icmp .lt off, 3)) (ht : (pc : Int) + off = (tgt : Int)) (ha : rng a) (hb : rng b) (kt : a < b → go z d kc ks y Q X tgt ls st μ) (kf : b ≤ a → go z d kc ks y Q X (pc + 3) ls st μ) : go z d kc ks y Q X pc ls (.int (iI b) :: .int (iI a) :: st) μ := by
  intro p l e R s m args below meth c D cy X0 mc ms nn ad hc H locs cells slots lsA dv hw hS hl h1 h2
  exact lv_icmp_lt hc.1 hc.2.1 hd ht (fun h => go_use (kt ((iI_lt ha hb).mp h)) hc hw hS hl h1 h2) (fun h => go_use (kf (Int.not_lt.mp (fun q => h ((iI_lt ha hb).mpr q)))) hc hw hS hl h1 h2)
theorem go_if_lt {a : Int} {off : Int} {tgt : Nat} (hd : decode y.2.1 pc = .ok (.ifCond .lt off, 3)) (ht : (pc : Int) + off = (tgt : Int)) (ha : rng a) (kt : a < 0 → go z d kc ks y Q X tgt ls st μ) (kf : 0 ≤ a → go z d kc ks y Q X (pc + 3) ls st μ) : go z d kc ks y Q X pc ls (.int (iI a) :: st) μ := by
  intro p l e R s m args below meth c D cy X0 mc ms nn ad hc H locs cells slots lsA dv hw hS hl h1 h2
  have hb : rng 0 := rng0
  exact lv_if_lt hc.1 hc.2.1 hd ht (fun h => go_use (kt ((iI_lt ha hb).mp h)) hc hw hS hl h1 h2) (fun h => go_use (kf (Int.not_lt.mp (fun q => h ((iI_lt ha hb).mpr q)))) hc hw hS hl h1 h2)
theorem go_icmp_ge {a b : Int} {off : Int} {tgt : Nat} (hd : decode y.2.1 pc = .ok (.if_icmp .ge off, 3)) (ht : (pc : Int) + off = (tgt : Int)) (ha : rng a) (hb : rng b) (kt : b ≤ a → go z d kc ks y Q X tgt ls st μ) (kf : a < b → go z d kc ks y Q X (pc + 3) ls st μ) : go z d kc ks y Q X pc ls (.int (iI b) :: .int (iI a) :: st) μ := by
  intro p l e R s m args below meth c D cy X0 mc ms nn ad hc H locs cells slots lsA dv hw hS hl h1 h2
  exact lv_icmp_ge hc.1 hc.2.1 hd ht (fun h => go_use (kt ((iI_le hb ha).mp h)) hc hw hS hl h1 h2) (fun h => go_use (kf (Int.not_le.mp (fun q => h ((iI_le hb ha).mpr q)))) hc hw hS hl h1 h2)
theorem go_if_ge {a : Int} {off : Int} {tgt : Nat} (hd : decode y.2.1 pc = .ok (.ifCond .ge off, 3)) (ht : (pc : Int) + off = (tgt : Int)) (ha : rng a) (kt : 0 ≤ a → go z d kc ks y Q X tgt ls st μ) (kf : a < 0 → go z d kc ks y Q X (pc + 3) ls st μ) : go z d kc ks y Q X pc ls (.int (iI a) :: st) μ := by
  intro p l e R s m args below meth c D cy X0 mc ms nn ad hc H locs cells slots lsA dv hw hS hl h1 h2
  have hb : rng 0 := rng0
  exact lv_if_ge hc.1 hc.2.1 hd ht (fun h => go_use (kt ((iI_le hb ha).mp h)) hc hw hS hl h1 h2) (fun h => go_use (kf (Int.not_le.mp (fun q => h ((iI_le hb ha).mpr q)))) hc hw hS hl h1 h2)
theorem go_icmp_gt {a b : Int} {off : Int} {tgt : Nat} (hd : decode y.2.1 pc = .ok (.if_icmp .gt off, 3)) (ht : (pc : Int) + off = (tgt : Int)) (ha : rng a) (hb : rng b) (kt : b < a → go z d kc ks y Q X tgt ls st μ) (kf : a ≤ b → go z d kc ks y Q X (pc + 3) ls st μ) : go z d kc ks y Q X pc ls (.int (iI b) :: .int (iI a) :: st) μ := by
  intro p l e R s m args below meth c D cy X0 mc ms nn ad hc H locs cells slots lsA dv hw hS hl h1 h2
  exact lv_icmp_gt hc.1 hc.2.1 hd ht (fun h => go_use (kt ((iI_lt hb ha).mp h)) hc hw hS hl h1 h2) (fun h => go_use (kf (Int.not_lt.mp (fun q => h ((iI_lt hb ha).mpr q)))) hc hw hS hl h1 h2)
theorem go_if_gt {a : Int} {off : Int} {tgt : Nat} (hd : decode y.2.1 pc = .ok (.ifCond .gt off, 3)) (ht : (pc : Int) + off = (tgt : Int)) (ha : rng a) (kt : 0 < a → go z d kc ks y Q X tgt ls st μ) (kf : a ≤ 0 → go z d kc ks y Q X (pc + 3) ls st μ) : go z d kc ks y Q X pc ls (.int (iI a) :: st) μ := by
  intro p l e R s m args below meth c D cy X0 mc ms nn ad hc H locs cells slots lsA dv hw hS hl h1 h2
  have hb : rng 0 := rng0
  exact lv_if_gt hc.1 hc.2.1 hd ht (fun h => go_use (kt ((iI_lt hb ha).mp h)) hc hw hS hl h1 h2) (fun h => go_use (kf (Int.not_lt.mp (fun q => h ((iI_lt hb ha).mpr q)))) hc hw hS hl h1 h2)
theorem go_icmp_le {a b : Int} {off : Int} {tgt : Nat} (hd : decode y.2.1 pc = .ok (.if_icmp .le off, 3)) (ht : (pc : Int) + off = (tgt : Int)) (ha : rng a) (hb : rng b) (kt : a ≤ b → go z d kc ks y Q X tgt ls st μ) (kf : b < a → go z d kc ks y Q X (pc + 3) ls st μ) : go z d kc ks y Q X pc ls (.int (iI b) :: .int (iI a) :: st) μ := by
  intro p l e R s m args below meth c D cy X0 mc ms nn ad hc H locs cells slots lsA dv hw hS hl h1 h2
  exact lv_icmp_le hc.1 hc.2.1 hd ht (fun h => go_use (kt ((iI_le ha hb).mp h)) hc hw hS hl h1 h2) (fun h => go_use (kf (Int.not_le.mp (fun q => h ((iI_le ha hb).mpr q)))) hc hw hS hl h1 h2)
theorem go_if_le {a : Int} {off : Int} {tgt : Nat} (hd : decode y.2.1 pc = .ok (.ifCond .le off, 3)) (ht : (pc : Int) + off = (tgt : Int)) (ha : rng a) (kt : a ≤ 0 → go z d kc ks y Q X tgt ls st μ) (kf : 0 < a → go z d kc ks y Q X (pc + 3) ls st μ) : go z d kc ks y Q X pc ls (.int (iI a) :: st) μ := by
  intro p l e R s m args below meth c D cy X0 mc ms nn ad hc H locs cells slots lsA dv hw hS hl h1 h2
  have hb : rng 0 := rng0
  exact lv_if_le hc.1 hc.2.1 hd ht (fun h => go_use (kt ((iI_le ha hb).mp h)) hc hw hS hl h1 h2) (fun h => go_use (kf (Int.not_le.mp (fun q => h ((iI_le ha hb).mpr q)))) hc hw hS hl h1 h2)
theorem go_getI {idx ci j a : Nat} {fs : List (Option Nat)} (hd : decode y.2.1 pc = .ok (.getfield idx, 3)) (hf : flk y.1.cls idx ci j) (hs : shp a = (0, ci, fs)) (hj : fs[j]? = some none) (ha : a < z) (K : rng (μ a j) → go z d kc ks y Q X (pc + 3) ls (.int (iI (μ a j)) :: st) μ) : go z d kc ks y Q X pc ls (.ref a :: st) μ := by
  intro p l e R s m args below meth c D cy X0 mc ms nn ad hc H locs cells slots lsA dv hw hS hl h1 h2
  obtain ⟨C, T, N, ty, f1, f2, f3, f4, f5, f6, f7⟩ := hf
  obtain ⟨hR, E, hE, hP, hD⟩ := id hw
  have hcc := id hc
  obtain ⟨c1, c2, c3, c4, c5, c6, c7, c8, c9, c10, c11⟩ := hcc
  have he : (wsl cy dv ad μ nn ++ E)[a]? = some (ad a, .inr (ci, flv ad μ a 0 fs)) := by rw [wsl_get (by omega), ent_0 hs]
  have hv : (flv ad μ a 0 fs)[j]? = some (.int (iI (μ a j))) := by rw [flv_get, hj]; simp
  rcases f3 with f3 | f3
  · exact va_get (Ts := aw) (v := .int (iI (μ a j))) c1 c2 c6 f4 c5 c8.1 hP a he f1 j f2 (c6 _ f3) (fun x h => by rw [f7] at h; exact h) hv hd (go_use (K (hR a j)) hc hw hS hl h1 h2)
  · exact va_getN (Ts := aw) (v := .int (iI (μ a j))) c1 c2 c6 f4 c5 c8.1 hP a he f1 j f2 (fw_at f3 (c8.2.2.2.2.2.2.2.2.2.2 _ f3)) (fun x h => by rw [f7] at h; exact h) hv hd (go_use (K (hR a j)) hc hw hS hl h1 h2)
theorem go_getR {idx ci j a q : Nat} {fs : List (Option Nat)} (hd : decode y.2.1 pc = .ok (.getfield idx, 3)) (hf : flk y.1.cls idx ci j) (hs : shp a = (0, ci, fs)) (hj : fs[j]? = some (some q)) (ha : a < z) (K : go z d kc ks y Q X (pc + 3) ls (.ref q :: st) μ) : go z d kc ks y Q X pc ls (.ref a :: st) μ := by
  intro p l e R s m args below meth c D cy X0 mc ms nn ad hc H locs cells slots lsA dv hw hS hl h1 h2
  obtain ⟨C, T, N, ty, f1, f2, f3, f4, f5, f6, f7⟩ := hf
  obtain ⟨hR, E, hE, hP, hD⟩ := id hw
  have hcc := id hc
  obtain ⟨c1, c2, c3, c4, c5, c6, c7, c8, c9, c10, c11⟩ := hcc
  have he : (wsl cy dv ad μ nn ++ E)[a]? = some (ad a, .inr (ci, flv ad μ a 0 fs)) := by rw [wsl_get (by omega), ent_0 hs]
  have hv : (flv ad μ a 0 fs)[j]? = some (.ref (ad q)) := by rw [flv_get, hj]; simp
  rcases f3 with f3 | f3
  · exact va_get (Ts := aw) (v := .ref (ad q)) c1 c2 c6 f4 c5 c8.1 hP a he f1 j f2 (c6 _ f3) (fun x h => by rw [f7] at h; exact h) hv hd (go_use K hc hw hS hl h1 h2)
  · exact va_getN (Ts := aw) (v := .ref (ad q)) c1 c2 c6 f4 c5 c8.1 hP a he f1 j f2 (fw_at f3 (c8.2.2.2.2.2.2.2.2.2.2 _ f3)) (fun x h => by rw [f7] at h; exact h) hv hd (go_use K hc hw hS hl h1 h2)
theorem wd_put {D : va_G} {cy : Nat → ClassId} {n a i : Nat} {X0 : Nat → Prop} {ad : Nat → Nat} {dv : UInt64} {μ : Mem} {H : Heap} {E : va_W} {v : Int} {e : va_E} (hR : ∀ a i, rng (μ a i)) (hE : sbx cy ad μ n E) (hv : rng v) (ha : a < n) (hn : n ≤ 400) (he : e = ent cy dv ad (wr μ a i v) a)
    (hP : va_P D vwCl ((wsl cy dv ad μ n ++ E).set a (ad a, e)) H) (hD : va_D X0 ((wsl cy dv ad μ n ++ E).set a (ad a, e))) : wd D cy n ad dv (wr μ a i v) X0 H := by
  rw [wsl_set ha he] at hP hD
  exact ⟨wr_rng hR hv, E, sbx_off hE (fun b j hb => wr_na (by omega)), hP, hD⟩
theorem go_put {idx ci j a : Nat} {v : Int} {t : FieldType} {fs : List (Option Nat)} (hd : decode y.2.1 pc = .ok (.putfield idx, 3)) (hf : fpk y.1.cls idx ci j t) (hs : shp a = (0, ci, fs)) (hj : fs[j]? = some none) (ha : a < z) (hv : rng v) (ht : narrow t (.int (iI v)) = .int (iI v)) (hfit : fits t (.int (iI v)) = true) (K : go z d kc ks y Q X (pc + 3) ls st (wr μ a j v)) : go z d kc ks y Q X pc ls (.int (iI v) :: .ref a :: st) μ := by
  intro p l e R s m args below meth c D cy X0 mc ms nn ad hc H locs cells slots lsA dv hw hS hl h1 h2
  obtain ⟨C, T, N, ty, f1, f2, f3, f4, f5, f6, f7, f8, f9⟩ := hf
  obtain ⟨hR, E, hE, hP, hD⟩ := id hw
  have hcc := id hc
  obtain ⟨c1, c2, c3, c4, c5, c6, c7, c8, c9, c10, c11⟩ := hcc
  have he : (wsl cy dv ad μ nn ++ E)[a]? = some (ad a, .inr (ci, flv ad μ a 0 fs)) := by rw [wsl_get (by omega), ent_0 hs]
  have hlen : j < (flv ad μ a 0 fs).length := by rw [flv_len]; exact (List.getElem?_eq_some_iff.mp hj).1
  have K9 : ∀ (H1 : Heap) (locs1 : List Loc), va_P D vwCl ((wsl cy dv ad μ nn ++ E).set a (ad a, .inr (ci, (flv ad μ a 0 fs).set j (.int (iI v))))) H1 → va_D X0 ((wsl cy dv ad μ nn ++ E).set a (ad a, .inr (ci, (flv ad μ a 0 fs).set j (.int (iI v))))) → va_S X0 s.heap H1 locs1 → W p l e R s m args below meth c H1 locs1 cells slots (vx_MQ below (gQ D cy X0 nn ad Q) (gX D cy X0 nn ad X) args s mc ms X0) (F0 m (pc + 3) lsA (st.map (av_l ad))) := by
    intro H1 locs1 hP1 hD1 hS1
    refine go_use K hc (wd_put hR hE hv (by omega) c10 (?_) hP1 hD1) hS1 hl h1 h2
    rw [ent_0 hs]
    have := flv_set ad μ a v fs 0 j hj
    rw [Nat.zero_add] at this
    rw [this]
  rcases f3 with f3 | f3
  · exact va_put (Ts := aw) (v := .int (iI v)) (ty := t) c1 c2 c6 f4 ty f5 f6 c5 c8.1 hP hD hS a he f1 j f2 (c6 _ f3) (fun x h => by rw [f7] at h; exact h) f8 f9 ht hfit hlen hd K9
  · exact va_putN (Ts := aw) (v := .int (iI v)) (ty := t) c1 c2 c6 f4 ty f5 f6 c5 c8.1 hP hD hS a he f1 j f2 (fw_at f3 (c8.2.2.2.2.2.2.2.2.2.2 _ f3)) (fun x h => by rw [f7] at h; exact h) f8 f9 ht hfit hlen hd K9
theorem go_putI {idx ci j a : Nat} {v : Int} {fs : List (Option Nat)} (hd : decode y.2.1 pc = .ok (.putfield idx, 3)) (hf : fpk y.1.cls idx ci j .int) (hs : shp a = (0, ci, fs)) (hj : fs[j]? = some none) (ha : a < z) (hv : rng v) (K : go z d kc ks y Q X (pc + 3) ls st (wr μ a j v)) : go z d kc ks y Q X pc ls (.int (iI v) :: .ref a :: st) μ :=
  go_put hd hf hs hj ha hv rfl rfl K
theorem nar_b {v : Int} (h : v = 0 ∨ v = 1) : narrow .boolean (.int (iI v)) = .int (iI v) ∧ fits .boolean (.int (iI v)) = true := by
  rcases h with h | h <;> subst h <;> exact ⟨by decide, by decide⟩
theorem go_putZ {idx ci j a : Nat} {v : Int} {fs : List (Option Nat)} (hd : decode y.2.1 pc = .ok (.putfield idx, 3)) (hf : fpk y.1.cls idx ci j .boolean) (hs : shp a = (0, ci, fs)) (hj : fs[j]? = some none) (ha : a < z) (hv : v = 0 ∨ v = 1) (K : go z d kc ks y Q X (pc + 3) ls st (wr μ a j v)) : go z d kc ks y Q X pc ls (.int (iI v) :: .ref a :: st) μ :=
  go_put hd hf hs hj ha (by rcases hv with h | h <;> subst h <;> exact ⟨by decide, by decide⟩) (nar_b hv).1 (nar_b hv).2 K
/-! rows -/
theorem go_iaload {a n k : Nat} {i : Int} {fs : List (Option Nat)} (hd : decode y.2.1 pc = .ok (.iaload, 1)) (hs : shp a = (1, n, fs)) (ha : a < z) (hi : i = (k : Int)) (hk : k < n) (hn : n < 4000) (K : rng (μ a k) → go z d kc ks y Q X (pc + 1) ls (.int (iI (μ a k)) :: st) μ) : go z d kc ks y Q X pc ls (.int (iI i) :: .ref a :: st) μ := by
  intro p l e R s m args below meth c D cy X0 mc ms nn ad hc H locs cells slots lsA dv hw hS hl h1 h2
  subst hi
  obtain ⟨hR, E, hE, hP, hD⟩ := id hw
  have hcc := id hc
  obtain ⟨c1, c2, c3, c4, c5, c6, c7, c8, c9, c10, c11⟩ := hcc
  have he : (wsl cy dv ad μ nn ++ E)[a]? = some (ad a, .inl (cy 0, n, .inl (fun j => iI (μ a j)))) := by rw [wsl_get (by omega), ent_1 hs]
  refine va_iald c1 c2 c8.1 hP a 0 he rfl (iI_in hk (by omega)) hd ?_
  rw [iI_clamp (by omega)]
  exact go_use (K (hR a k)) hc hw hS hl h1 h2
theorem go_zaload {a n k : Nat} {i : Int} {fs : List (Option Nat)} (hd : decode y.2.1 pc = .ok (.baload, 1)) (hs : shp a = (2, n, fs)) (ha : a < z) (hi : i = (k : Int)) (hk : k < n) (hn : n < 4000) (K : rng (μ a k) → go z d kc ks y Q X (pc + 1) ls (.int (iI (μ a k)) :: st) μ) : go z d kc ks y Q X pc ls (.int (iI i) :: .ref a :: st) μ := by
  intro p l e R s m args below meth c D cy X0 mc ms nn ad hc H locs cells slots lsA dv hw hS hl h1 h2
  subst hi
  obtain ⟨hR, E, hE, hP, hD⟩ := id hw
  have hcc := id hc
  obtain ⟨c1, c2, c3, c4, c5, c6, c7, c8, c9, c10, c11⟩ := hcc
  have he : (wsl cy dv ad μ nn ++ E)[a]? = some (ad a, .inl (cy 1, n, .inl (fun j => iI (μ a j)))) := by rw [wsl_get (by omega), ent_2 hs]
  refine va_zald c1 c2 c8.1 hP a 1 he rfl (iI_in hk (by omega)) hd ?_
  rw [iI_clamp (by omega)]
  exact go_use (K (hR a k)) hc hw hS hl h1 h2
theorem go_baload {a n k : Nat} {i : Int} {fs : List (Option Nat)} (hd : decode y.2.1 pc = .ok (.baload, 1)) (hs : shp a = (3, n, fs)) (ha : a < z) (hi : i = (k : Int)) (hk : k < n) (hn : n < 4000) (K : rng (μ a k) → go z d kc ks y Q X (pc + 1) ls (.int (iI (μ a k)) :: st) μ) : go z d kc ks y Q X pc ls (.int (iI i) :: .ref a :: st) μ := by
  intro p l e R s m args below meth c D cy X0 mc ms nn ad hc H locs cells slots lsA dv hw hS hl h1 h2
  subst hi
  obtain ⟨hR, E, hE, hP, hD⟩ := id hw
  have hcc := id hc
  obtain ⟨c1, c2, c3, c4, c5, c6, c7, c8, c9, c10, c11⟩ := hcc
  have he : (wsl cy dv ad μ nn ++ E)[a]? = some (ad a, .inl (cy 2, n, .inl (fun j => iI (μ a j)))) := by rw [wsl_get (by omega), ent_3 hs]
  refine va_bald c1 c2 c8.1 hP a 2 he rfl (iI_in hk (by omega)) hd ?_
  rw [iI_clamp (by omega)]
  exact go_use (K (hR a k)) hc hw hS hl h1 h2
theorem upd_wr (μ : Mem) (a k : Nat) (v : Int) : upd (fun j => iI (μ a j)) k (iI v) = fun j => iI (wr μ a k v a j) := by
  funext j
  unfold upd wr
  by_cases h : j = k <;> simp [h]
theorem go_iastore {a n k : Nat} {i v : Int} {fs : List (Option Nat)} (hd : decode y.2.1 pc = .ok (.iastore, 1)) (hs : shp a = (1, n, fs)) (ha : a < z) (hi : i = (k : Int)) (hk : k < n) (hn : n < 4000) (hv : rng v) (K : go z d kc ks y Q X (pc + 1) ls st (wr μ a k v)) : go z d kc ks y Q X pc ls (.int (iI v) :: .int (iI i) :: .ref a :: st) μ := by
  intro p l e R s m args below meth c D cy X0 mc ms nn ad hc H locs cells slots lsA dv hw hS hl h1 h2
  subst hi
  obtain ⟨hR, E, hE, hP, hD⟩ := id hw
  have hcc := id hc
  obtain ⟨c1, c2, c3, c4, c5, c6, c7, c8, c9, c10, c11⟩ := hcc
  have he : (wsl cy dv ad μ nn ++ E)[a]? = some (ad a, .inl (cy 0, n, .inl (fun j => iI (μ a j)))) := by rw [wsl_get (by omega), ent_1 hs]
  refine va_iast c1 c2 c8.1 hP hD hS a 0 he rfl (iI_in hk (by omega)) hd (fun H1 locs1 hP1 hD1 hS1 => ?_)
  rw [iI_clamp (by omega), upd_wr] at hP1 hD1
  exact go_use K hc (wd_put hR hE hv (by omega) c10 (ent_1 hs).symm hP1 hD1) hS1 hl h1 h2
theorem go_zastore {a n k : Nat} {i v : Int} {fs : List (Option Nat)} (hd : decode y.2.1 pc = .ok (.bastore, 1)) (hs : shp a = (2, n, fs)) (ha : a < z) (hi : i = (k : Int)) (hk : k < n) (hn : n < 4000) (hv : v = 0 ∨ v = 1) (K : go z d kc ks y Q X (pc + 1) ls st (wr μ a k v)) : go z d kc ks y Q X pc ls (.int (iI v) :: .int (iI i) :: .ref a :: st) μ := by
  intro p l e R s m args below meth c D cy X0 mc ms nn ad hc H locs cells slots lsA dv hw hS hl h1 h2
  subst hi
  obtain ⟨hR, E, hE, hP, hD⟩ := id hw
  have hcc := id hc
  obtain ⟨c1, c2, c3, c4, c5, c6, c7, c8, c9, c10, c11⟩ := hcc
  have he : (wsl cy dv ad μ nn ++ E)[a]? = some (ad a, .inl (cy 1, n, .inl (fun j => iI (μ a j)))) := by rw [wsl_get (by omega), ent_2 hs]
  have hnar : vp_nar .boolean (iI v) = iI v := by rcases hv with h | h <;> subst h <;> decide
  refine va_zast c1 c2 c8.1 hP hD hS a 1 he rfl (iI_in hk (by omega)) hd (fun H1 locs1 hP1 hD1 hS1 => ?_)
  rw [iI_clamp (by omega), hnar, upd_wr] at hP1 hD1
  exact go_use K hc (wd_put hR hE (by rcases hv with h | h <;> subst h <;> exact ⟨by decide, by decide⟩) (by omega) c10 (ent_2 hs).symm hP1 hD1) hS1 hl h1 h2
theorem nar_by {v : Int} (h : -128 ≤ v ∧ v < 128) : vp_nar .byte (iI v) = iI v := by
  rw [vp_nar_byte]
  apply Int32.toInt_inj.mp
  rw [iI_t ⟨by omega, by omega⟩, Int8.toInt_toInt32]
  unfold iI
  rw [Int32.toInt8_ofInt, Int8.toInt_ofInt_of_le h.1 h.2]
theorem go_bastore {a n k : Nat} {i v : Int} {fs : List (Option Nat)} (hd : decode y.2.1 pc = .ok (.bastore, 1)) (hs : shp a = (3, n, fs)) (ha : a < z) (hi : i = (k : Int)) (hk : k < n) (hn : n < 4000) (hv : -128 ≤ v ∧ v < 128) (K : go z d kc ks y Q X (pc + 1) ls st (wr μ a k v)) : go z d kc ks y Q X pc ls (.int (iI v) :: .int (iI i) :: .ref a :: st) μ := by
  intro p l e R s m args below meth c D cy X0 mc ms nn ad hc H locs cells slots lsA dv hw hS hl h1 h2
  subst hi
  obtain ⟨hR, E, hE, hP, hD⟩ := id hw
  have hcc := id hc
  obtain ⟨c1, c2, c3, c4, c5, c6, c7, c8, c9, c10, c11⟩ := hcc
  have he : (wsl cy dv ad μ nn ++ E)[a]? = some (ad a, .inl (cy 2, n, .inl (fun j => iI (μ a j)))) := by rw [wsl_get (by omega), ent_3 hs]
  refine va_bast c1 c2 c8.1 hP hD hS a 2 he rfl (iI_in hk (by omega)) hd (fun H1 locs1 hP1 hD1 hS1 => ?_)
  rw [iI_clamp (by omega), nar_by hv, upd_wr] at hP1 hD1
  exact go_use K hc (wd_put hR hE ⟨by omega, by omega⟩ (by omega) c10 (ent_3 hs).symm hP1 hD1) hS1 hl h1 h2
theorem go_aaload {a n k q : Nat} {i : Int} {fs : List (Option Nat)} (hd : decode y.2.1 pc = .ok (.aaload, 1)) (hs : shp a = (4, n, fs)) (ha : a < z) (hi : i = (k : Int)) (hk : k < n) (hn : n < 4000) (hq : fs.getD k none = some q) (K : go z d kc ks y Q X (pc + 1) ls (.ref q :: st) μ) : go z d kc ks y Q X pc ls (.int (iI i) :: .ref a :: st) μ := by
  intro p l e R s m args below meth c D cy X0 mc ms nn ad hc H locs cells slots lsA dv hw hS hl h1 h2
  subst hi
  obtain ⟨hR, E, hE, hP, hD⟩ := id hw
  have hcc := id hc
  obtain ⟨c1, c2, c3, c4, c5, c6, c7, c8, c9, c10, c11⟩ := hcc
  have he : (wsl cy dv ad μ nn ++ E)[a]? = some (ad a, .inl (cy 3, n, .inr (.inr (.inr (.inr (fun j => (fs.getD j none).map ad)))))) := by rw [wsl_get (by omega), ent_4 hs]
  refine va_aldq c1 c2 c8.1 hP a 3 he rfl (iI_in hk (by omega)) hd ?_
  rw [iI_clamp (by omega), hq]
  exact go_use K hc hw hS hl h1 h2
/-! ends -/
theorem go_ireturn {v : Int} (hd : decode y.2.1 pc = .ok (.ireturn, 1)) (hr : y.2.2.2.1 = some .int) (K : Q (some (.int (iI v))) μ) : go z d kc ks y Q X pc ls [.int (iI v)] μ := by
  intro p l e R s m args below meth c D cy X0 mc ms nn ad hc H locs cells slots lsA dv hw hS hl h1 h2
  obtain ⟨c1, c2, c3, c4, c5, c6, c7, c8, c9, c10, c11⟩ := hc
  refine W.widen (k := mc) (n := ms) (by omega) (by omega) (vx_ret ?_)
  exact W.iret (v := iI v) c1 c2 (c3.trans hr) (fun t ht hW => ⟨⟨_, μ, dv, rfl, K, by rw [ht]; exact hw⟩, hS.F ht⟩) hS.2.2 hd c7
theorem go_zreturn {v : Int} (hd : decode y.2.1 pc = .ok (.ireturn, 1)) (hr : y.2.2.2.1 = some .boolean) (hv : v = 0 ∨ v = 1) (K : Q (some (.int (iI v))) μ) : go z d kc ks y Q X pc ls [.int (iI v)] μ := by
  intro p l e R s m args below meth c D cy X0 mc ms nn ad hc H locs cells slots lsA dv hw hS hl h1 h2
  obtain ⟨c1, c2, c3, c4, c5, c6, c7, c8, c9, c10, c11⟩ := hc
  refine W.widen (k := mc) (n := ms) (by omega) (by omega) (vx_ret ?_)
  exact W.zret (v := iI v) c1 c2 (c3.trans hr) (nar_b hv).1 (fun t ht hW => ⟨⟨_, μ, dv, rfl, K, by rw [ht]; exact hw⟩, hS.F ht⟩) hS.2.2 hd c7
theorem go_return (hd : decode y.2.1 pc = .ok (.return_, 1)) (hr : y.2.2.2.1 = none) (K : Q none μ) : go z d kc ks y Q X pc ls [] μ := by
  intro p l e R s m args below meth c D cy X0 mc ms nn ad hc H locs cells slots lsA dv hw hS hl h1 h2
  obtain ⟨c1, c2, c3, c4, c5, c6, c7, c8, c9, c10, c11⟩ := hc
  refine W.widen (k := mc) (n := ms) (by omega) (by omega) (vx_ret ?_)
  exact W.vret c1 c2 (c3.trans hr) (fun t ht hW => ⟨⟨none, μ, dv, rfl, K, by rw [ht]; exact hw⟩, hS.F ht⟩) hS.2.2 hd c7
end Rules
