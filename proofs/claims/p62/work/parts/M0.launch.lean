/-! WHAT THE LAUNCH GIVES -/
/-- the free addresses at the launch -/
def fr0 (n : Nat) : Nat → Prop := fun a => n ≤ a
abbrev gv1 : List Cond := flatC (Jvm.Cond.and given_1 narrow_1)
/-- what is said of a String constant -/
def spl (q : String × Nat × String) : List Cond := [.exactly (.string q.1 q.2.1) "java/lang/String", .eq (.field (.string q.1 q.2.1) "java/lang/String" "coder" "B") (.int 0), .arrayOf (.field (.string q.1 q.2.1) "java/lang/String" "value" "[B") .byte, .eq (.length (.field (.string q.1 q.2.1) "java/lang/String" "value" "[B")) (.int (Int32.ofNat q.2.2.length))] ++ (List.range q.2.2.length).map (fun j => .eq (.elem (.field (.string q.1 q.2.1) "java/lang/String" "value" "[B") (.int (Int32.ofNat j))) (.int (sc_b q.2.2 j)))
def scp : List Nat := [253, 369, 379, 369, 369, 369, 369, 369, 369, 369, 369, 369, 369, 369, 369, 369, 369, 369, 845, 369, 421, 452, 484, 516, 544, 617, 660, 725, 391, 369, 369, 780, 802, 826]
def stp : List Nat := [381, 460, 502, 460, 460, 460, 460, 460, 460, 460, 460, 460, 460, 460, 460, 460, 460, 460, 1668, 460, 877, 892, 1087, 1114, 1131, 1141, 1148, 1255, 644, 460, 460, 1443, 1589, 1595]
theorem sc_prem : ∀ i : Fin 34, (gv1.drop (scp.getD i.val 0)).take (spl (sc_l.getD i.val ("", 0, ""))).length = spl (sc_l.getD i.val ("", 0, "")) := by decide +kernel
theorem sc_ref : ∀ i : Fin 34, tables_1[stp.getD i.val 0]? = some (Cond.stringRef (sc_l.getD i.val ("", 0, "")).1 (sc_l.getD i.val ("", 0, "")).2.1 (sc_l.getD i.val ("", 0, "")).2.2) := by decide +kernel
theorem sc_49 : sc_l.length = 34 := by decide +kernel
theorem sc_lt : ∀ i : Fin 34, (sc_l.getD i.val ("", 0, "")).2.2.length < 2 ^ 31 := by decide +kernel
def digl (n d : String) (f : Nat → Int32) : List Cond := [.arrayOf (.static "java/lang/Integer" n d) .byte, .eq (.length (.static "java/lang/Integer" n d)) (.int (Int32.ofNat 100))] ++ (List.range 100).map (fun j => .eq (.elem (.static "java/lang/Integer" n d) (.int (Int32.ofNat j))) (.int (f j)))
theorem dg_o : (gv1.drop 12).take 102 = digl "DigitOnes" "[B" (fun j => Int32.ofNat (48 + j % 10)) := by decide +kernel
theorem dg_t : (gv1.drop 115).take 102 = digl "DigitTens" "[B" (fun j => Int32.ofNat (48 + j / 10)) := by decide +kernel
theorem lwt {w : Cond} (i : Nat) (h : tables_1[i]? = some w) : w ∈ lw_tbl := List.mem_append_right _ (List.mem_of_getElem? h)
theorem dig_of {s : State} {args : Array Value} {n d : String} {f : Nat → Int32} (hg : ∀ w ∈ digl n d f, w.before args s = true) (hl : (Cond.laysStatic "java/lang/Integer" n d).before args s = true) (hi : (Cond.initialized "java/lang/Integer").before args s = true) :
    ∃ t : Nat, va_Z "java/lang/Integer" n d (.ref t) (fr0 s.heap.size) s s.heap ∧ va_T .byte t 100 (fun j => .int (f j)) (fr0 s.heap.size) s s.heap := by
  have hA : ∀ a : Nat, a < s.heap.size → ¬ fr0 s.heap.size a := fun a h => Nat.not_le.mpr h
  obtain ⟨t, ht, hT⟩ := va_Tof (f := fun j => .int (f j)) (N := 100) (tm := .static "java/lang/Integer" n d) (ty := .byte) (A := fr0 s.heap.size) (by decide) (hg _ (List.mem_append_left _ List.mem_cons_self)) (va_eqt (hg _ (List.mem_append_left _ (List.mem_cons_of_mem _ List.mem_cons_self)))) (fun j hj => va_eqt (hg _ (List.mem_append_right _ (List.mem_map.mpr ⟨j, List.mem_range.mpr hj, rfl⟩)))) hA
  exact ⟨t, va_Zref hl hi ht hA, hT⟩
theorem sub_mem {α : Type} {l m : List α} {p n : Nat} (h : (l.drop p).take n = m) {x : α} (hx : x ∈ m) : x ∈ l := by
  rw [← h] at hx
  exact List.mem_of_mem_drop (List.mem_of_mem_take hx)
theorem sc_of {s : State} {args : Array Value} {q : String × Nat × String} (hL : q.2.2.length < 2 ^ 31) (hg : ∀ w ∈ spl q, w.before args s = true) (hr : (Cond.stringRef q.1 q.2.1 q.2.2).before args s = true) :
    ∃ x : Nat × Nat, vk_R q.1 q.2.1 q.2.2 x.1 s ∧ va_O "java/lang/String" x.1 (fr0 s.heap.size) s s.heap ∧ va_OF "java/lang/String" "coder" "B" (.int 0) x.1 (fr0 s.heap.size) s s.heap ∧
      va_OF "java/lang/String" "value" "[B" (.ref x.2) x.1 (fr0 s.heap.size) s s.heap ∧ va_T .byte x.2 q.2.2.length (fun j => .int (sc_b q.2.2 j)) (fr0 s.heap.size) s s.heap := by
  have hA : ∀ a : Nat, a < s.heap.size → ¬ fr0 s.heap.size a := fun a h => Nat.not_le.mpr h
  have e1 := hg (.exactly (.string q.1 q.2.1) "java/lang/String") (List.mem_append_left _ List.mem_cons_self)
  have e2 := hg (.eq (.field (.string q.1 q.2.1) "java/lang/String" "coder" "B") (.int 0)) (List.mem_append_left _ (List.mem_cons_of_mem _ List.mem_cons_self))
  have e3 := hg (.arrayOf (.field (.string q.1 q.2.1) "java/lang/String" "value" "[B") .byte) (List.mem_append_left _ (List.mem_cons_of_mem _ (List.mem_cons_of_mem _ List.mem_cons_self)))
  have e4 := hg (.eq (.length (.field (.string q.1 q.2.1) "java/lang/String" "value" "[B")) (.int (Int32.ofNat q.2.2.length))) (List.mem_append_left _ (List.mem_cons_of_mem _ (List.mem_cons_of_mem _ (List.mem_cons_of_mem _ List.mem_cons_self))))
  obtain ⟨a, c, cA, kA, q1, q2, q3, q4, q5, q6, -⟩ := Cond.exactly_spec (args := args) (first := s) (o := none) (s := s) (idx := []) (t := .string q.1 q.2.1) (cls := "java/lang/String") e1
  obtain ⟨t, ht, hT⟩ := va_Tof (f := fun j => .int (sc_b q.2.2 j)) (A := fr0 s.heap.size) hL e3 (va_eqt e4) (fun j hj => va_eqt (hg _ (List.mem_append_right _ (List.mem_map.mpr ⟨j, List.mem_range.mpr hj, rfl⟩)))) hA
  exact ⟨(a, t), vk_R.of hr q1, va_Oof e1 q1 hA, vk_OFof q1 (va_eqt e2) hA, vk_OFof q1 ht hA, hT⟩
/-- the constants' addresses -/
def adk (f : Nat → Nat × Nat) (t1 t2 t3 : Nat) (k : Nat) : Nat := if k = 7500 then t1 else if k = 7501 then t2 else if k = 7502 then t3 else if k < 7200 then (f (k - 7000)).1 else (f (k - 7200)).2
theorem launch_stb {s : State} {args : Array Value} (hts : ∀ w ∈ lw_tbl, w.before args s = true) (hgv : (Jvm.Cond.and given_1 narrow_1).before args s = true) : ∃ ad : Nat → Nat, stb (fr0 s.heap.size) ad s s.heap := by
  have hg : ∀ w ∈ gv1, w.before args s = true := flat_of_before _ hgv
  have hA : ∀ a : Nat, a < s.heap.size → ¬ fr0 s.heap.size a := fun a h => Nat.not_le.mpr h
  have hp : ∀ (p n : Nat) (w : Cond), gv1[p]? = some w → w.before args s = true := fun p n w h => hg w (List.mem_of_getElem? h)
  have h0 : ∀ i : Nat, ∃ x : Nat × Nat, ∀ q, sc_l[i]? = some q → vk_R q.1 q.2.1 q.2.2 x.1 s ∧ va_O "java/lang/String" x.1 (fr0 s.heap.size) s s.heap ∧ va_OF "java/lang/String" "coder" "B" (.int 0) x.1 (fr0 s.heap.size) s s.heap ∧
      va_OF "java/lang/String" "value" "[B" (.ref x.2) x.1 (fr0 s.heap.size) s s.heap ∧ va_T .byte x.2 q.2.2.length (fun j => .int (sc_b q.2.2 j)) (fr0 s.heap.size) s s.heap := by
    intro i
    by_cases hi : i < 34
    · have eq : ∀ q, sc_l[i]? = some q → sc_l.getD i ("", 0, "") = q := fun q h => by rw [List.getD_eq_getElem?_getD, h]; rfl
      obtain ⟨q, hq⟩ : ∃ q, sc_l[i]? = some q := ⟨_, List.getElem?_eq_getElem (by rw [sc_49]; exact hi)⟩
      have e1 := sc_prem ⟨i, hi⟩
      have e2 := sc_ref ⟨i, hi⟩
      have e3 := sc_lt ⟨i, hi⟩
      dsimp only at e1 e2 e3
      rw [eq q hq] at e1 e2 e3
      obtain ⟨x, hx⟩ := sc_of (q := q) e3 (fun w hw => hg w (sub_mem e1 hw)) (hts _ (lwt _ e2))
      exact ⟨x, fun q' hq' => by rw [hq] at hq'; cases hq'; exact hx⟩
    · exact ⟨(0, 0), fun q h => absurd (List.getElem?_eq_some_iff.mp h).1 (by rw [sc_49]; exact hi)⟩
  obtain ⟨f, hf⟩ := Classical.axiomOfChoice h0
  obtain ⟨t1, z1, T1⟩ := dig_of (f := fun j => Int32.ofNat (48 + j % 10)) (fun w hw => hg w (sub_mem dg_o hw)) (hts _ (lwt 1565 (by decide +kernel))) (hts _ (lwt 24 (by decide +kernel)))
  obtain ⟨t2, z2, T2⟩ := dig_of (f := fun j => Int32.ofNat (48 + j / 10)) (fun w hw => hg w (sub_mem dg_t hw)) (hts _ (lwt 1567 (by decide +kernel))) (hts _ (lwt 24 (by decide +kernel)))
  have zf : va_Zq "jdk/internal/util/Preconditions" "SIOOBE_FORMATTER" "Ljava/util/function/BiFunction;" (fr0 s.heap.size) s s.heap := va_Zqof (hts _ (lwt 410 (by decide +kernel))) (hts _ (lwt 17 (by decide +kernel))) (hp 5 0 _ (by decide +kernel)) hA
  obtain ⟨t3, v3, hv3, z3⟩ : ∃ (t3 : Nat) (v : Value), (v = .null ∨ v = .ref t3) ∧ va_Z "jdk/internal/util/Preconditions" "SIOOBE_FORMATTER" "Ljava/util/function/BiFunction;" v (fr0 s.heap.size) s s.heap := by
    rcases zf with z | ⟨t, z⟩
    · exact ⟨0, .null, Or.inl rfl, z⟩
    · exact ⟨t, .ref t, Or.inr rfl, z⟩
  refine ⟨adk f t1 t2 t3, fun i q hi => ?_, vx_Zqof (hts _ (lwt 629 (by decide +kernel))) (hts _ (lwt 25 (by decide +kernel))) (hp 9 0 _ (by decide +kernel)) hA, vx_Zqof (hts _ (lwt 631 (by decide +kernel))) (hts _ (lwt 25 (by decide +kernel))) (hp 10 0 _ (by decide +kernel)) hA,
    va_Zof (hts _ (lwt 359 (by decide +kernel))) (hts _ (lwt 14 (by decide +kernel))) (va_eqt (hp 4 0 _ (by decide +kernel))) hA, ⟨fun q hq => ?_, v3, hv3, z3⟩, z1, T1, z2, T2, fun w hw => fw_at hw (hts w (List.mem_filter.mp hw).1)⟩
  · have hl : i < 34 := by
      have := (List.getElem?_eq_some_iff.mp hi).1
      rwa [sc_49] at this
    unfold sc_ok
    have e1 : adk f t1 t2 t3 (7000 + i) = (f i).1 := by
      unfold adk
      rw [if_neg (by omega), if_neg (by omega), if_neg (by omega), if_pos (by omega), Nat.add_sub_cancel_left]
    have e2 : adk f t1 t2 t3 (7200 + i) = (f i).2 := by
      unfold adk
      rw [if_neg (by omega), if_neg (by omega), if_neg (by omega), if_neg (by omega), Nat.add_sub_cancel_left]
    rw [e1, e2]
    exact hf i q hi
  · exact absurd hq (by unfold nc_l; exact List.not_mem_nil)

/-- a row's class, of numbers or of chambers -/
theorem arr_of {s : State} {args : Array Value} {t : FieldType} (h : (Cond.arrayClass t).before args s = true) (ht : ∀ C, t ≠ .object C) : ∃ c : ClassId, ArrOfT s c t ∧ va_RA s c t := by
  obtain ⟨c, k, comp, h1, h2, h3⟩ := Cond.arrayClass_spec h
  refine ⟨c, fun n z => ⟨fun k h => (by cases h), k, h2, comp, h3⟩, ?_⟩
  unfold va_RA
  cases t with
  | object C => exact absurd rfl (ht C)
  | _ => exact h1
theorem arr_ofq {s : State} {args : Array Value} {C : String} (h : (Cond.arrayOver (.object C)).before args s = true) : ∃ c : ClassId, ArrOfT s c (.object C) ∧ va_RA s c (.object C) := by
  obtain ⟨comp, c, k, h1, h2, h3, h4, h5⟩ := Cond.arrayOver_spec h
  exact ⟨c, fun n z => ⟨fun k h => (by cases h), k, h3, comp, h4⟩, k, comp, h3, h4, h1, h5⟩
theorem launch_K {s : State} {args : Array Value} (hts : ∀ w ∈ lw_tbl, w.before args s = true) : ∃ (D : va_G) (cy : Nat → ClassId), va_K D vwCl (tys cy) s := by
  obtain ⟨c0, i0, k0⟩ := u_known (C := RJ0) (T := TJ0) (N := 4) (n := 4) hts (fun w hw => (List.mem_filter.mp (iaJ0 w hw)).1) (hts _ (lwt 1601 (by decide +kernel)))
  obtain ⟨c1, i1, k1⟩ := u_known (C := RJ4) (T := TJ4) (N := 4) (n := 4) hts (fun w hw => (List.mem_filter.mp (iaJ4 w hw)).1) (hts _ (lwt 350 (by decide +kernel)))
  obtain ⟨c2, i2, k2⟩ := u_known (C := RJ0) (T := TJ0) (N := 4) (n := 4) hts (fun w hw => (List.mem_filter.mp (iaJ0 w hw)).1) (hts _ (lwt 1601 (by decide +kernel)))
  obtain ⟨c3, i3, k3⟩ := u_known (C := RJ4) (T := TJ4) (N := 4) (n := 4) hts (fun w hw => (List.mem_filter.mp (iaJ4 w hw)).1) (hts _ (lwt 350 (by decide +kernel)))
  obtain ⟨c4, i4, k4⟩ := u_known (C := RX0) (T := TX0) (N := 5) (n := 5) hts (fun w hw => (List.mem_filter.mp (iaX0 w hw)).1) (hts _ (lwt 257 (by decide +kernel)))
  obtain ⟨c5, i5, k5⟩ := u_known (C := RX1) (T := TX1) (N := 11) (n := 11) hts (fun w hw => (List.mem_filter.mp (iaX1 w hw)).1) (hts _ (lwt 170 (by decide +kernel)))
  obtain ⟨c6, i6, k6⟩ := u_known (C := RX2) (T := TX2) (N := 3) (n := 3) hts (fun w hw => (List.mem_filter.mp (iaX2 w hw)).1) (hts _ (lwt 330 (by decide +kernel)))
  obtain ⟨c7, i7, k7⟩ := u_known (C := RX3) (T := TX3) (N := 3) (n := 3) hts (fun w hw => (List.mem_filter.mp (iaX3 w hw)).1) (hts _ (lwt 176 (by decide +kernel)))
  obtain ⟨c8, i8, k8⟩ := u_known (C := RX4) (T := TX4) (N := 6) (n := 6) hts (fun w hw => (List.mem_filter.mp (iaX4 w hw)).1) (hts _ (lwt 198 (by decide +kernel)))
  obtain ⟨c9, i9, k9⟩ := u_known (C := RX5) (T := TX5) (N := 4) (n := 4) hts (fun w hw => (List.mem_filter.mp (iaX5 w hw)).1) (hts _ (lwt 232 (by decide +kernel)))
  obtain ⟨c10, i10, k10⟩ := u_known (C := RX6) (T := TX6) (N := 8) (n := 8) hts (fun w hw => (List.mem_filter.mp (iaX6 w hw)).1) (hts _ (lwt 85 (by decide +kernel)))
  obtain ⟨c11, i11, k11⟩ := u_known (C := RX7) (T := TX7) (N := 12) (n := 12) hts (fun w hw => (List.mem_filter.mp (iaX7 w hw)).1) (hts _ (lwt 114 (by decide +kernel)))
  obtain ⟨c12, i12, k12⟩ := u_known (C := RX8) (T := TX8) (N := 2) (n := 2) hts (fun w hw => (List.mem_filter.mp (iaX8 w hw)).1) (hts _ (lwt 42 (by decide +kernel)))
  obtain ⟨c13, i13, k13⟩ := u_known (C := RX9) (T := TX9) (N := 6) (n := 6) hts (fun w hw => (List.mem_filter.mp (iaX9 w hw)).1) (hts _ (lwt 58 (by decide +kernel)))
  obtain ⟨c14, i14, k14⟩ := u_known (C := RX10) (T := TX10) (N := 11) (n := 11) hts (fun w hw => (List.mem_filter.mp (iaX10 w hw)).1) (hts _ (lwt 34 (by decide +kernel)))
  obtain ⟨c15, i15, k15⟩ := u_known (C := RX11) (T := TX11) (N := 33) (n := 33) hts (fun w hw => (List.mem_filter.mp (iaX11 w hw)).1) (hts _ (lwt 699 (by decide +kernel)))
  obtain ⟨y0, a0⟩ := arr_of (t := .int) (hts _ (lwt 112 (by decide +kernel))) (fun C h => by cases h)
  obtain ⟨y1, a1⟩ := arr_of (t := .boolean) (hts _ (lwt 380 (by decide +kernel))) (fun C h => by cases h)
  obtain ⟨y2, a2⟩ := arr_of (t := .byte) (hts _ (lwt 56 (by decide +kernel))) (fun C h => by cases h)
  obtain ⟨y3, a3⟩ := arr_ofq (C := "BarberParliament$Chamber") (hts _ (lwt 336 (by decide +kernel)))
  obtain ⟨y4, a4⟩ := arr_ofq (C := "BarberParliamentLaw$Own") (hts _ (lwt 1682 (by decide +kernel)))
  refine ⟨(fun k => [c0, c1, c2, c3, c4, c5, c6, c7, c8, c9, c10, c11, c12, c13, c14, c15].getD k 0, fun k => [i0, i1, i2, i3, i4, i5, i6, i7, i8, i9, i10, i11, i12, i13, i14, i15].getD k (fun _ => 0)), fun k => [y0, y1, y2, y3, y4].getD k 0, fun k q hq => ?_, fun k q hq => ?_⟩
  · match k, hq with
    | 0, hq => cases hq; exact k0
    | 1, hq => cases hq; exact k1
    | 2, hq => cases hq; exact k2
    | 3, hq => cases hq; exact k3
    | 4, hq => cases hq; exact k4
    | 5, hq => cases hq; exact k5
    | 6, hq => cases hq; exact k6
    | 7, hq => cases hq; exact k7
    | 8, hq => cases hq; exact k8
    | 9, hq => cases hq; exact k9
    | 10, hq => cases hq; exact k10
    | 11, hq => cases hq; exact k11
    | 12, hq => cases hq; exact k12
    | 13, hq => cases hq; exact k13
    | 14, hq => cases hq; exact k14
    | 15, hq => cases hq; exact k15
    | k + 16, hq => simp [vwCl] at hq
  · match k, hq with
    | 0, hq => cases hq; exact a0
    | 1, hq => cases hq; exact a1
    | 2, hq => cases hq; exact a2
    | 3, hq => cases hq; exact a3
    | 4, hq => cases hq; exact a4
    | k + 5, hq => simp [tys] at hq
