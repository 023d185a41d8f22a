/-! CATCHING -/
theorem lh_unk {ad : Nat → Nat} {lsA lsB : Array Slot} {nL : Nat} {ls : List Value} {i q : Nat} (h : lh ad lsA nL ls)
    (hB : lv_has lsB nL ((i, .ref q) :: (lh_p ad ls).filter (fun q => !(q.1 == i) && !(q.1 + 1 == i && q.2.category == 2)))) : lh ad lsB nL (ls.set i .null) := by
  refine ⟨hB.1, hB.2.1, fun w hw => ?_, by rw [List.length_set]; exact h.2.2.2.1, fun j w hj hn => ?_⟩
  · rcases List.mem_or_eq_of_mem_set hw with h1 | h1
    · exact h.2.2.1 w h1
    · rw [h1]; rfl
  · by_cases e : j = i
    · subst e
      have hl : j < ls.length := by
        have := (List.getElem?_eq_some_iff.mp hj).1
        rwa [List.length_set] at this
      rw [List.getElem?_set_self hl] at hj
      cases hj
      exact absurd rfl hn
    · rw [List.getElem?_set_ne (Ne.symm e)] at hj
      have hm := lh_mem (ad := ad) hj hn
      refine hB.2.2 (j, av_l ad w) (List.mem_cons_of_mem _ (List.mem_filter.mpr ⟨hm, ?_⟩))
      have hc : (av_l ad w).category = 1 := by rw [av_cat]; exact h.2.2.1 w (List.mem_of_getElem? hj)
      simp [e, hc]
/-- what is thrown at pc as E is caught, and goes on at h -/
def ctc (y : MI) (pc : Nat) (E : String) (h : Nat) : Prop := ∃ (pre : List ExceptionTableEntry) (x : ExceptionTableEntry) (suf : List ExceptionTableEntry), tableOf y.2.2.2.2.1 = pre ++ x :: suf ∧
  (∀ z ∈ pre, covers z pc = false ∨ (z.catchType ≠ 0 ∧ ∃ nm : String, Cond.classLink y.1.cls z.catchType nm ∈ aw ∧ (E, nm) ∈ nc_l)) ∧ covers x pc = true ∧ x.catchType ≠ 0 ∧ Cond.classLink y.1.cls x.catchType E ∈ aw ∧ Cond.castable E E ∈ fw ∧ x.handlerPc = h
/-- the handler's first step puts the exception away -/
def Hnd (z d kc ks : Nat) (y : MI) (Q : Option Value → Mem → Prop) (X : String → Mem → Prop) (pc : Nat) (ls : List Value) : String → Mem → Prop := fun E μ => ∃ (h k : Nat), ctc y pc E h ∧ k < y.2.2.1 ∧
  ((∃ kf : Fin 4, (kf : Nat) = k ∧ decode y.2.1 h = .ok (.astore_n kf, 1) ∧ go z d kc ks y Q X (h + 1) (ls.set k .null) [] μ) ∨ (decode y.2.1 h = .ok (.astore k, 2) ∧ go z d kc ks y Q X (h + 2) (ls.set k .null) [] μ))
theorem hnd_W {z d kc2 ks2 : Nat} {y : MI} {Q : Option Value → Mem → Prop} {X : String → Mem → Prop} {pc : Nat} {ls rest : List Value} {p : Program} {l : Launch} {e : Env} {R : Room} {s : State} {m : MethodId} {args : Array Value} {below : List Frame} {meth : Method} {c : Code} {D : va_G} {cy : Nat → ClassId} {X0 mc ms n : Nat} {ad : Nat → Nat}
    (hc : cx z d y p l R s m args meth c D cy X0 mc ms n ad) {lsA : Array Slot} {cells slots : Nat} (hl : lh ad lsA y.2.2.1 ls) {E : String} {μ' : Mem} {dv : UInt64} {H' : Heap} {locs' : List Loc} {q : Addr} {ce : Cell} (hx : Hnd z d kc2 ks2 y Q X pc ls E μ') (hw : wd D cy n ad dv μ' X0 H') (hS : va_S (fun q : Nat => X0 ≤ q) s.heap H' locs') (hce : H'[q]? = some ce) (hvm : ce.vm = .none) (hcl : s.vm.findClass E = some ce.cls) (h1 : cells + kc2 ≤ mc) (h2 : slots + ks2 ≤ ms) :
      vx_W p l e R s m args below meth c H' locs' cells slots (vx_MQ below (gQ D cy X0 n ad Q) (gX D cy X0 n ad X) args s mc ms (fun q : Nat => X0 ≤ q)) (F0 m pc lsA (rest.map (av_l ad))) q := by
  obtain ⟨c1, c2, c3, c4, c5, c6, c7, c8, c9, c10, c11, c12, c13, c14, c15, c16, c17, c18, c19⟩ := id hc
  obtain ⟨h, k, ⟨pre, x, suf, t1, t2, t3, t4, t5, t6, t7⟩, hk, hx⟩ := hx
  refine vx_catch (own := y.1.cls) (name := E) c5 pre x suf (c16.trans t1) (fun z9 hz9 => ?_) t3 t4 (c6 _ t5) (fw_at t6 (c8.2.2.2.2.2.2.2.2.2.2 _ t6)) hce hvm hcl ?_
  · rcases t2 z9 hz9 with w | ⟨w, nm, w1, w2⟩
    · exact Or.inl w
    · exact Or.inr ⟨w, nm, c6 _ w1, c8.2.2.2.2.2.1.1 _ w2⟩
  rw [t7]
  rcases hx with ⟨kf, e1, e2, K⟩ | ⟨e2, K⟩
  · exact lv_astore_n c1 c2 e2 e1 (lh_has hl) hk rfl (fun lsB hB => go_use K hc hw hS (lh_unk hl hB) h1 h2)
  · exact lv_astore c1 c2 e2 (lh_has hl) hk rfl (fun lsB hB => go_use K hc hw hS (lh_unk hl hB) h1 h2)
section CallsH
variable {z d kc ks : Nat} {y : MI} {Q : Option Value → Mem → Prop} {X : String → Mem → Prop} {pc : Nat} {ls st : List Value} {μ : Mem}
theorem go_callVH {z' d' kc' ks' kc2 ks2 b idx n ci : Nat} {y' : MI} {as rest : List Value} {fs : List (Option Nat)} (hd : decode y.2.1 pc = .ok (.invokevirtual idx, 3)) (hst : st = as.reverse ++ .ref b :: rest) (hlk : Cond.methodLink y.1.cls idx y'.1 ∈ aw) (hm : mokV y' n) (hs : shp b = (0, ci, fs)) (hcl : ∃ T N, vwCl[ci]? = some (y'.1.cls, T, N)) (hb : b < z)
    (hn : as.length = n) (hl' : n + 1 ≤ y'.2.2.1) (hcat : ∀ v ∈ as, v.category = 1) (hW : (rest.map fun v => v.category).sum ≤ 8) (hz : z' ≤ z) (hdd : d' + 1 ≤ d) (hk : kc' + kc2 ≤ kc) (hks : ks' + ks2 ≤ ks)
    (K : mt z' d' kc' ks' y' (.ref b :: as) (fun r μ' => go z d kc2 ks2 y Q X (pc + 3) ls (psh r rest) μ') (Hnd z d kc2 ks2 y Q X pc ls) μ) : go z d kc ks y Q X pc ls st μ := by
  subst hst
  intro p l e R s m args below meth c D cy X0 mc ms nn ad hc H locs cells slots lsA dv hw hS hl h1 h2
  obtain ⟨c1, c2, c3, c4, c5, c6, c7, c8, c9, c10, c11, c12, c13, c14, c15, c16, c17, c18, c19⟩ := id hc
  obtain ⟨⟨k1, k2, k3, k4, k5, k6, k9⟩, k7, k8⟩ := hm
  obtain ⟨TT, NN, hcl⟩ := hcl
  have hM := mt_vx (l := l) (D := D) (cy := cy) (X0 := X0) (n := nn) (ad := ad) (dv := dv) K k3 k6 k9 (by simp; omega) (by simpa using ⟨rfl, hcat⟩) c18 (by omega) c10
  have hcw : CallW R s args y.1.cls y'.1.cls idx y'.1 y'.2.1 y'.2.2.1 y'.2.2.2.1 (wsa y') (rmd d' kc' ks') kc' ks' n :=
    ⟨callB_of n c6 (good_wsa k1) rfl rfl rfl (c6 _ k2) (c6 _ hlk) k4 ⟨by show d' + 1 ≤ _; omega, by show 8 + (y'.2.2.1 + 11) + 40 * d' ≤ _; omega⟩, c6 _ k7, c6 _ k8⟩
  obtain ⟨hR, E, hE, hP, hD⟩ := id hw
  have he : (wsl cy dv ad μ nn ++ E)[b]? = some (ad b, .inr (ci, flv ad μ b 0 fs)) := by rw [wsl_get (by omega), ent_0 hs]
  have hp : PreV s H y'.1.cls (ad b) (gP D cy X0 nn ad dv μ (.ref b :: as)) (as.map (av_l ad)) :=
    ⟨gP_blind, va_recv c8.1 hP hcl he, fun U hU hWU => ⟨rfl, by rw [hU]; exact hw, by rw [hU]; exact kx_moved hWU hS c8, by rw [hU]; exact Nat.le_trans c15 hS.1⟩⟩
  refine go_backH (X' := Hnd z d kc2 ks2 y Q X pc ls) (kc' := kc') (ks' := ks') (kc2 := kc2) (ks2 := ks2) (rest := rest) hc hS hl (by omega) (by omega) (a := (Value.ref (ad b) :: as.map (av_l ad)).toArray) (fun E μ' dv H' locs' q ce hx hw9 hS9 hce hvm hcl => hnd_W (kc2 := kc2) (ks2 := ks2) (cells := cells + kc') (slots := slots + ks') hc hl hx hw9 hS9 hce hvm hcl (by omega) (by omega)) ?_
  refine vx_runV (As := as.map (av_l ad)) (b := ad b) (nL := y.2.2.1) ⟨c1, c2, c4, c5, c6⟩ hM hcw hp rfl (by rw [List.length_map]; exact hn) hl.1 ?_ (lv_room (by rw [av_sum]; exact hW)) hd ⟨by omega, by omega⟩
  simp [List.map_append, List.map_reverse, av_l]
end CallsH
