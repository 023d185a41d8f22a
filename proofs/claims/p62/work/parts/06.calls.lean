
def els (y : MI) (as : List Value) : List Value := as ++ List.replicate (y.2.2.1 - as.length) .null
/-- method y at its entry, called with as -/
def mt (z d kc ks : Nat) (y : MI) (as : List Value) (Q : Option Value → Mem → Prop) (X : String → Mem → Prop) (μ : Mem) : Prop := go z d kc ks y Q X 0 (els y as) [] μ
def wsa (y : MI) : List Cond := .code y.1 y.2.1 y.2.2.1 y.2.2.2.1 :: aw
def rmd (d kc ks : Nat) : Room := { frames := d, cells := kc, slots := ks, locals := 40 * d }
def gP (D : va_G) (cy : Nat → ClassId) (X0 : Nat → Prop) (n : Nat) (ad : Nat → Nat) (dv : UInt64) (μ : Mem) (as : List Value) : Array Value → State → Prop := fun v U =>
  v = (as.map (av_l ad)).toArray ∧ wd D cy n ad dv μ X0 U.heap ∧ kx D cy X0 ad U U.heap ∧ AX X0 U.heap
theorem kx_calling {D : va_G} {cy : Nat → ClassId} {X0 : Nat → Prop} {ad : Nat → Nat} {U : State} {H : Heap} {g : JFrame} {mk : MethodId} {a : Array Value} (h : kx D cy X0 ad U H) : kx D cy X0 ad (U.calling g mk a) H :=
  ⟨va_K.moved (u := U) (U := U.calling g mk a) (Vm.Alike.refl U.vm) h.1, stb_moved (State.WarmedH.refl U) (fun _ _ _ => rfl) h.2⟩
theorem gP_blind {D : va_G} {cy : Nat → ClassId} {X0 : Nat → Prop} {n : Nat} {ad : Nat → Nat} {dv : UInt64} {μ : Mem} {as : List Value} : FrameBlind (gP D cy X0 n ad dv μ as) := by
  intro a U g mk h
  obtain ⟨h1, h2, h3, h4⟩ := h
  exact ⟨h1, h2, kx_calling h3, h4⟩
theorem lg_cat1 : ∀ (vs : List Value), (∀ v ∈ vs, v.category = 1) → (lg_sl vs).length = vs.length
  | [], _ => rfl
  | v :: vs, h => by
    have h1 : v.category = 1 := h v List.mem_cons_self
    have h2 := lg_cat1 vs (fun w hw => h w (List.mem_cons_of_mem _ hw))
    have e : lg_sl (v :: vs) = .val v :: lg_sl vs := by simp [lg_sl, h1]
    rw [e, List.length_cons, h2, List.length_cons]
theorem lv_args_get : ∀ (vs : List Value) (k i : Nat) (v : Value), (∀ v ∈ vs, v.category = 1) → vs[i]? = some v → (k + i, v) ∈ lv_args k vs
  | [], k, i, v, _, h => by simp at h
  | w :: vs, k, 0, v, hc, h => by
    have e : w = v := by simpa using h
    subst e
    exact List.mem_cons_self
  | w :: vs, k, i + 1, v, hc, h => by
    have h1 : w.category = 1 := hc w List.mem_cons_self
    have h2 := lv_args_get vs (k + 1) i v (fun u hu => hc u (List.mem_cons_of_mem _ hu)) (by simpa using h)
    unfold lv_args
    rw [if_neg (by omega), show k + (i + 1) = k + 1 + i by omega]
    exact List.mem_cons_of_mem _ h2
theorem lh_entry {ad : Nat → Nat} {y : MI} {as : List Value} (hl : as.length ≤ y.2.2.1) (hc : ∀ v ∈ as, v.category = 1) :
    lh ad ((lg_sl (as.map (av_l ad)) ++ List.replicate (y.2.2.1 - (lg_sl (as.map (av_l ad))).length) Slot.unset).toArray) y.2.2.1 (els y as) := by
  have hc' : ∀ v ∈ as.map (av_l ad), v.category = 1 := by
    intro v hv
    obtain ⟨w, hw, rfl⟩ := List.mem_map.mp hv
    rw [av_cat]; exact hc w hw
  have hlen := lg_cat1 _ hc'
  have h := lv_entry (as.map (av_l ad)) (n := y.2.2.1) (by rw [hlen, List.length_map]; exact hl)
  refine ⟨h.1, h.2.1, fun v hv => ?_, by simp [els]; omega, fun i v hv hn => ?_⟩
  · rcases List.mem_append.mp hv with h1 | h1
    · exact hc v h1
    · rw [List.eq_of_mem_replicate h1]; rfl
  · by_cases hi : i < as.length
    · have e : as[i]? = some v := by rwa [els, List.getElem?_append_left hi] at hv
      have m := lv_args_get (as.map (av_l ad)) 0 i (av_l ad v) hc' (by rw [List.getElem?_map, e]; rfl)
      rw [Nat.zero_add] at m
      exact h.2.2 _ m
    · rw [els, List.getElem?_append_right (by omega)] at hv
      exact absurd (List.eq_of_mem_replicate (List.mem_of_getElem? hv)) hn
theorem mt_vx {z d kc ks : Nat} {y : MI} {as : List Value} {Q : Option Value → Mem → Prop} {X : String → Mem → Prop} {μ : Mem} (h : mt z d kc ks y as Q X μ) (hp : plainName y.1.cls = true) (hh : y.2.2.2.2.1 = []) (hsc : y.2.2.2.2.2 = none) (hl : as.length ≤ y.2.2.1) (hc : ∀ v ∈ as, v.category = 1)
    {l : Launch} (hst : l.stackTraces = false) {D : va_G} {cy : Nat → ClassId} {X0 : Nat → Prop} {n : Nat} {ad : Nat → Nat} {dv : UInt64} (hz : z ≤ n) (hn : n ≤ 400) :
    vx_Met l y.1 (wsa y) (rmd d kc ks) (gP D cy X0 n ad dv μ as) (gQ D cy X0 n ad Q) (gX D cy X0 n ad X) kc ks X0 := by
  refine vx_ofW (cc := y.2.1) (maxL := y.2.2.1) (ret := y.2.2.2.1) hp rfl ?_
  intro p e s m args below meth c s₁ B hml htb hv
  obtain ⟨rfl, hw, hk, hX⟩ := hv
  have ht : c.exceptionTable.toList = tableOf y.2.2.2.2.1 := by
    rw [hh]
    cases hx : c.exceptionTable.toList with
    | nil => rfl
    | cons a r => exact (htb a (by rw [hx]; exact List.mem_cons_self)).elim
  rw [lg_entry_eq]
  exact go_use h (l := l) (R := (headSpec (wsa y) (rmd d kc ks)).room) ⟨B.exec, B.bytes, B.returns, hml, findClass_of_methodNamed B.named, fun w hw => atoms_spec (ws := wsa y) B.pre w (List.mem_cons_of_mem _ hw), B.notSynchronized, hk, hz, hn, Nat.le_refl d, Nat.le_refl (40 * d), Nat.le_refl kc, Nat.le_refl ks, hX, ht, (name_of_methodNamed B.named B.method).1, hst, fun L xs => ⟨fun e => (by rw [hsc] at e; cases e), fun e => (by rw [hsc] at e; cases e)⟩⟩
    hw va_S.rf (lh_entry hl hc) (by omega) (by omega)
theorem good_wsa {y : MI} (h : Cond.code y.1 y.2.1 y.2.2.1 y.2.2.2.1 ∈ aw) : GoodIn aw (wsa y) := fun w hw => aw_good w ((List.mem_cons.mp hw).elim (fun e => e ▸ h) id)
def psh (r : Option Value) (st : List Value) : List Value := match r with
  | none => st
  | some v => v :: st
theorem psh_map (ad : Nat → Nat) (r : Option Value) (st : List Value) : (r.map (av_l ad)).toList ++ st.map (av_l ad) = (psh r st).map (av_l ad) := by cases r <;> rfl
section Calls2
variable {z d kc ks : Nat} {y : MI} {Q : Option Value → Mem → Prop} {X : String → Mem → Prop} {pc : Nat} {ls st : List Value} {μ : Mem}
/-- behind a call: the answer is pushed, the memory is what the callee left; a throw goes where hT says -/
theorem go_backH {kc' ks' kc2 ks2 : Nat} {rest : List Value} {p : Program} {l : Launch} {e : Env} {R : Room} {s : State} {m : MethodId} {args : Array Value} {below : List Frame} {meth : Method} {c : Code} {D : va_G} {cy : Nat → ClassId} {X0 : Nat → Prop} {mc ms n : Nat} {ad : Nat → Nat} {X' : String → Mem → Prop}
    (hc : cx z d y p l R s m args meth c D cy X0 mc ms n ad) {H : Heap} {locs : List Loc} {cells slots : Nat} {lsA : Array Slot} {st0 : List Value} {a : Array Value}
    (hS : va_S X0 s.heap H locs) (hl : lh ad lsA y.2.2.1 ls) (h1 : cells + kc' + kc2 ≤ mc) (h2 : slots + ks' + ks2 ≤ ms)
    (hthr : ∀ (E : String) (μ' : Mem) (dv : UInt64) (H' : Heap) (locs' : List Loc) (q : Addr) (ce : Cell), X' E μ' → wd D cy n ad dv μ' X0 H' → va_S X0 s.heap H' locs' → H'[q]? = some ce → ce.vm = .none → s.vm.findClass E = some ce.cls →
      vx_W p l e R s m args below meth c H' locs' (cells + kc') (slots + ks') (vx_MQ below (gQ D cy X0 n ad Q) (gX D cy X0 n ad X) args s mc ms X0) (F0 m pc lsA (rest.map (av_l ad))) q)
    (hr : vx_Run p l e R s m args below meth c H locs cells slots kc' ks' (F0 m pc lsA st0) (rest.map (av_l ad)) (gQ D cy X0 n ad (fun r μ' => go z d kc2 ks2 y Q X (pc + 3) ls (psh r rest) μ') a) (gX D cy X0 n ad X') X0) :
    W p l e R s m args below meth c H locs cells slots (vx_MQ below (gQ D cy X0 n ad Q) (gX D cy X0 n ad X) args s mc ms X0) (F0 m pc lsA st0) := by
  intro T hT X9
  have keep : ∀ (st₀ t T' : State) (L : List Loc), st₀.heap = H → T'.heap = t.heap → (∀ q ∈ L, X0 q.base) → va_F X0 st₀ t → va_S X0 s.heap T'.heap (locs ++ L) := by
    intro st₀ t T' L h0 e1 hL hF
    obtain ⟨hz, hk⟩ := hF
    rw [h0] at hz hk
    exact ⟨Nat.le_trans hS.1 (by rw [e1]; exact hz), fun q h1 h2 => by rw [e1, hk q (Nat.lt_of_lt_of_le h1 hS.1) h2]; exact hS.2.1 q h1 h2, fun q hq => by
      rcases List.mem_append.mp hq with h | h
      · exact hS.2.2 q h
      · exact hL q h⟩
  rcases hr T hT X9 with hr | hr
  · obtain ⟨v, st₀, t, T', L, h0, X', hL, e1, e2, ⟨⟨r, μ', dv', hv, hp, hb⟩, hF⟩, st9⟩ := hr
    have hv' : v = r.map (av_l ad) := by injection hv
    subst hv'
    have hw' : wd D cy n ad dv' μ' X0 T'.heap := by rw [e1]; exact hb
    obtain ⟨t2, a1, b1⟩ := go_use hp hc hw' (keep _ _ _ _ h0 e1 hL hF) hl (by omega) (by omega) T' rfl X'
    refine ⟨t2, st9 t2 ?_, b1⟩
    show Steps p.tables e below (T'.setTop { F0 m pc lsA st0 with pc := pc + 3, stack := (r.map (av_l ad)).toList ++ rest.map (av_l ad) }) t2
    rw [psh_map]
    exact a1
  · obtain ⟨q, st₀, t, T', L, E, ce, h0, X', hL, e1, e2, ⟨⟨μ', dv', hx, hb⟩, hF⟩, hce, hvm, hcl, st9⟩ := hr
    have hw' : wd D cy n ad dv' μ' X0 T'.heap := by rw [e1]; exact hb
    obtain ⟨t2, a1, b1⟩ := hthr E μ' dv' T'.heap (locs ++ L) q ce hx hw' (keep _ _ _ _ h0 e1 hL hF) (by rw [e1]; exact hce) hvm hcl T' rfl X'
    exact ⟨t2, st9.trans a1, b1⟩
theorem go_thru {kc' ks' kc2 ks2 : Nat} {rest : List Value} {p : Program} {l : Launch} {e : Env} {R : Room} {s : State} {m : MethodId} {args : Array Value} {below : List Frame} {meth : Method} {c : Code} {D : va_G} {cy : Nat → ClassId} {X0 : Nat → Prop} {mc ms n : Nat} {ad : Nat → Nat}
    (hc : cx z d y p l R s m args meth c D cy X0 mc ms n ad) (hh : y.2.2.2.2.1 = []) {lsA : Array Slot} {cells slots : Nat} (h1 : cells + kc' + kc2 ≤ mc) (h2 : slots + ks' + ks2 ≤ ms)
    (E : String) (μ' : Mem) (dv : UInt64) (H' : Heap) (locs' : List Loc) (q : Addr) (ce : Cell) (hx : X E μ') (hw : wd D cy n ad dv μ' X0 H') (hS : va_S X0 s.heap H' locs') (hce : H'[q]? = some ce) (hvm : ce.vm = .none) (hcl : s.vm.findClass E = some ce.cls) :
      vx_W p l e R s m args below meth c H' locs' (cells + kc') (slots + ks') (vx_MQ below (gQ D cy X0 n ad Q) (gX D cy X0 n ad X) args s mc ms X0) (F0 m pc lsA (rest.map (av_l ad))) q := by
  obtain ⟨c1, c2, c3, c4, c5, c6, c7, c8, c9, c10, c11, c12, c13, c14, c15, c16, c17, c18, c19⟩ := hc
  rw [hh] at c16
  refine vx_out (E := E) (ce := ce) (fun x hx9 => by rw [c16] at hx9; cases hx9) c7 hce hvm hcl (fun t ht hA => ?_) hS.2.2 (by omega) (by omega)
  exact ⟨⟨μ', dv, hx, by rw [ht]; exact hw⟩, hS.F ht⟩
/-- an instance method of our classes, public or private; what it throws goes on -/
theorem go_callV {z' d' kc' ks' kc2 ks2 b idx n ci : Nat} {y' : MI} {as rest : List Value} {fs : List (Option Nat)} (hd : decode y.2.1 pc = .ok (.invokevirtual idx, 3)) (hst : st = as.reverse ++ .ref b :: rest) (hlk : Cond.methodLink y.1.cls idx y'.1 ∈ aw) (hm : mokV y' n) (hs : shp b = (0, ci, fs)) (hcl : ∃ T N, vwCl[ci]? = some (y'.1.cls, T, N)) (hb : b < z)
    (hn : as.length = n) (hl' : n + 1 ≤ y'.2.2.1) (hcat : ∀ v ∈ as, v.category = 1) (hW : (rest.map fun v => v.category).sum ≤ 8) (hz : z' ≤ z) (hdd : d' + 1 ≤ d) (hk : kc' + kc2 ≤ kc) (hks : ks' + ks2 ≤ ks) (hh : y.2.2.2.2.1 = [])
    (K : mt z' d' kc' ks' y' (.ref b :: as) (fun r μ' => go z d kc2 ks2 y Q X (pc + 3) ls (psh r rest) μ') X μ) : go z d kc ks y Q X pc ls st μ := by
  subst hst
  intro p l e R s m args below meth c D cy X0 mc ms nn ad hc H locs cells slots lsA dv hw hS hl h1 h2
  obtain ⟨c1, c2, c3, c4, c5, c6, c7, c8, c9, c10, c11, c12, c13, c14, c15, c16, c17, c18, c19⟩ := id hc
  obtain ⟨⟨k1, k2, k3, k4, k5, k6, k9⟩, k7, k8⟩ := hm
  obtain ⟨TT, NN, hcl⟩ := hcl
  have hM := mt_vx (l := l) (D := D) (cy := cy) (X0 := X0) (n := nn) (ad := ad) (dv := dv) K k3 k6 k9 (by simp; omega) (by simpa using ⟨rfl, hcat⟩) c18 (by omega) c10
  have hcw : CallW R s args y.1.cls y'.1.cls idx y'.1 y'.2.1 y'.2.2.1 y'.2.2.2.1 (wsa y') (rmd d' kc' ks') kc' ks' n :=
    ⟨callB_of n c6 (good_wsa k1) rfl rfl rfl (c6 _ k2) (c6 _ hlk) k4 ⟨by show d' + 1 ≤ _; omega, by show 8 + (y'.2.2.1 + 11) + 40 * d' ≤ _; omega⟩, c6 _ k7, c6 _ k8⟩
  obtain ⟨hR, E, hE, hP, hD⟩ := id hw
  have he : (wsl cy dv ad μ nn ++ E)[b]? = some (ad b, .inr (ci, flv ad μ b 0 fs)) := by rw [wsl_get (by omega), ent_0 hs]
  have hp : PreV s H y'.1.cls (ad b) (gP D cy X0 nn ad dv μ (.ref b :: as)) (as.map (av_l ad)) :=
    ⟨gP_blind, va_recv c8.1 hP hcl he, fun U hU hWU => ⟨rfl, by rw [hU]; exact hw, by rw [hU]; exact kx_moved hWU hS c8, by rw [hU]; exact AX_le c15 hS.1⟩⟩
  refine go_backH (kc' := kc') (ks' := ks') (kc2 := kc2) (ks2 := ks2) (rest := rest) hc hS hl (by omega) (by omega) (a := (Value.ref (ad b) :: as.map (av_l ad)).toArray) (go_thru hc hh (kc2 := kc2) (ks2 := ks2) (by omega) (by omega)) ?_
  refine vx_runV (As := as.map (av_l ad)) (b := ad b) (nL := y.2.2.1) ⟨c1, c2, c4, c5, c6⟩ hM hcw hp rfl (by rw [List.length_map]; exact hn) hl.1 ?_ (lv_room (by rw [av_sum]; exact hW)) hd ⟨by omega, by omega⟩
  simp [List.map_append, List.map_reverse, av_l]
/-- a static method of our classes -/
theorem go_callS {z' d' kc' ks' kc2 ks2 idx n : Nat} {y' : MI} {as rest : List Value} (hd : decode y.2.1 pc = .ok (.invokestatic idx, 3)) (hst : st = as.reverse ++ rest) (hlk : Cond.methodLink y.1.cls idx y'.1 ∈ aw) (hm : mokS y' n)
    (hn : as.length = n) (hl' : n ≤ y'.2.2.1) (hcat : ∀ v ∈ as, v.category = 1) (hW : (rest.map fun v => v.category).sum ≤ 8) (hz : z' ≤ z) (hdd : d' + 1 ≤ d) (hk : kc' + kc2 ≤ kc) (hks : ks' + ks2 ≤ ks) (hh : y.2.2.2.2.1 = [])
    (K : mt z' d' kc' ks' y' as (fun r μ' => go z d kc2 ks2 y Q X (pc + 3) ls (psh r rest) μ') X μ) : go z d kc ks y Q X pc ls st μ := by
  subst hst
  intro p l e R s m args below meth c D cy X0 mc ms nn ad hc H locs cells slots lsA dv hw hS hl h1 h2
  obtain ⟨c1, c2, c3, c4, c5, c6, c7, c8, c9, c10, c11, c12, c13, c14, c15, c16, c17, c18, c19⟩ := id hc
  obtain ⟨⟨k1, k2, k3, k4, k5, k6, k9⟩, k7⟩ := hm
  have hM := mt_vx (l := l) (D := D) (cy := cy) (X0 := X0) (n := nn) (ad := ad) (dv := dv) K k3 k6 k9 (by omega) hcat c18 (by omega) c10
  have hcw : CallB R s args y.1.cls idx y'.1 y'.2.1 y'.2.2.1 y'.2.2.2.1 (wsa y') (rmd d' kc' ks') kc' ks' n ∧ (Cond.static y'.1).before args s = true :=
    ⟨callB_of n c6 (good_wsa k1) rfl rfl rfl (c6 _ k2) (c6 _ hlk) k4 ⟨by show d' + 1 ≤ _; omega, by show 8 + (y'.2.2.1 + 11) + 40 * d' ≤ _; omega⟩, c6 _ k7⟩
  have hp : PreS s H (gP D cy X0 nn ad dv μ as) (as.map (av_l ad)) :=
    ⟨gP_blind, fun U hU hWU => ⟨rfl, by rw [hU]; exact hw, by rw [hU]; exact kx_moved hWU hS c8, by rw [hU]; exact AX_le c15 hS.1⟩⟩
  refine go_backH (kc' := kc') (ks' := ks') (kc2 := kc2) (ks2 := ks2) (rest := rest) hc hS hl (by omega) (by omega) (a := (as.map (av_l ad)).toArray) (go_thru hc hh (kc2 := kc2) (ks2 := ks2) (by omega) (by omega)) ?_
  refine vx_runS (As := as.map (av_l ad)) (nL := y.2.2.1) ⟨c1, c2, c4, c5, c6⟩ hM hcw hp rfl (by rw [List.length_map]; exact hn) hl.1 ?_ (lv_room (by rw [av_sum]; exact hW)) hd ⟨by omega, by omega⟩
  simp [List.map_append, List.map_reverse]
/-- String constants -/
theorem go_ldc {idx i : Nat} {tx : String} (hd : decode y.2.1 pc = .ok (.ldc idx, 2)) (hi : sc_l[i]? = some (y.1.cls, idx, tx)) (K : go z d kc ks y Q X (pc + 2) ls (.ref (7000 + i) :: st) μ) : go z d kc ks y Q X pc ls st μ := by
  intro p l e R s m args below meth c D cy X0 mc ms nn ad hc H locs cells slots lsA dv hw hS hl h1 h2
  obtain ⟨c1, c2, c3, c4, c5, c6, c7, c8, c9, c10, c11⟩ := id hc
  exact va_ldcS c1 c2 c5 (c8.2.1 i _ hi).1 hd (go_use K hc hw hS hl h1 h2)
end Calls2
