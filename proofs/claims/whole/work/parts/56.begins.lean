/-! THE MODEL: a row begun anew -/
def zr (ν : Nat → Int) (k : Nat) : Nat → Int := fun j => if j < k then 0 else ν j
def zc (ν : Nat → Int) : Nat → Nat → Int
  | 0 => ν
  | k + 1 => wv (zc ν k) (362 + 5 * k + 0) (-1)
def bgn (ν : Nat → Int) : Nat → Int := zc (zr ν 418) 4
theorem zr_0 {ν : Nat → Int} : zr ν 0 = ν := by
  funext j
  exact if_neg (by omega)
theorem zr_s {ν : Nat → Int} {k : Nat} : wv (zr ν k) k 0 = zr ν (k + 1) := by
  funext j
  unfold wv zr
  by_cases g : j = k
  · rw [if_pos g, if_pos (by omega)]
  · rw [if_neg g]
    by_cases g2 : j < k
    · rw [if_pos g2, if_pos (by omega)]
    · rw [if_neg g2, if_neg (by omega)]
section MBeg
variable {σ μ : Mem} {ν : Nat → Int}
set_option maxRecDepth 8000 in
set_option maxHeartbeats 4000000 in
theorem m_begins  {Q : Option Value → Mem → Prop} {X : String → Mem → Prop} (K : Q none (md σ (bgn ν) μ)) : mt 289 1 0 0 mX11_begins [.ref 276] Q X (md σ ν μ) := by
  show go 289 1 0 0 mX11_begins Q X 0 [.ref 276, .null] [] _
  have loop2 : ∀ (n k : Nat), k + n = 4 → go 289 1 0 0 mX11_begins Q X 24 [.ref 276, .int (iI (k : Nat))] [] (md σ (zc (zr ν 418) k) μ) := by
    intro n
    induction n using Nat.strongRecOn with
    | _ n ih =>
      intro k hk
      have ih' := ih (n - 1)
      refine go_iload_n (y := mX11_begins) (pc := 24) dX11_begins_24 rfl rfl ?_
      refine go_iconst (y := mX11_begins) (pc := 25) dX11_begins_25 ?_
      refine go_icmp_ge (y := mX11_begins) (pc := 26) (tgt := 42) dX11_begins_26 (by decide) (by omega) (by omega) (fun h26 => ?_) (fun h26 => ?_)
      · skip
        refine go_return (y := mX11_begins) (pc := 42) dX11_begins_42 rfl ?_
        have e : k = 4 := by omega
        subst e
        exact K
      · skip
        refine go_aload_n (y := mX11_begins) (pc := 29) dX11_begins_29 rfl rfl ?_
        refine go_iload_n (y := mX11_begins) (pc := 30) dX11_begins_30 rfl rfl ?_
        refine go_iconst (y := mX11_begins) (pc := 31) dX11_begins_31 ?_
        refine go_iconst (y := mX11_begins) (pc := 32) dX11_begins_32 ?_
        refine go_callV3 (y := mX11_begins) (pc := 33) (y' := mX11_putC) (kc2 := 0) (ks2 := 0) dX11_begins_33 ml_X11_79 ok_X11_putC (show shp 276 = _ from rfl) ⟨_, _, rfl⟩ (by decide) ⟨rfl, rfl, rfl⟩ (by decide) (Nat.le_of_ble_eq_true rfl) rfl (m_putC (h := k) (w := 0) (by omega) (by decide) (by omega) ?_)
        refine go_iinc (y := mX11_begins) (pc := 36) dX11_begins_36 rfl (by decide) ?_
        refine go_goto (y := mX11_begins) (pc := 39) (tgt := 24) dX11_begins_39 (by decide) ?_
        exact ih' (by omega) (k + 1) (by omega)
  have loop1 : ∀ (n k : Nat), k + n = 418 → go 289 1 0 0 mX11_begins Q X 2 [.ref 276, .int (iI (k : Nat))] [] (md σ (zr ν k) μ) := by
    intro n
    induction n using Nat.strongRecOn with
    | _ n ih =>
      intro k hk
      have ih' := ih (n - 1)
      refine go_iload_n (y := mX11_begins) (pc := 2) dX11_begins_2 rfl rfl ?_
      refine go_sipush (y := mX11_begins) (pc := 3) dX11_begins_3 (by decide) ?_
      refine go_icmp_ge (y := mX11_begins) (pc := 6) (tgt := 22) dX11_begins_6 (by decide) (by omega) (by omega) (fun h6 => ?_) (fun h6 => ?_)
      · skip
        refine go_iconst (y := mX11_begins) (pc := 22) dX11_begins_22 ?_
        refine go_istore_n (y := mX11_begins) (pc := 23) dX11_begins_23 rfl (by decide) ?_
        have e : k = 418 := by omega
        subst e
        exact loop2 4 0 rfl
      · skip
        refine go_aload_n (y := mX11_begins) (pc := 9) dX11_begins_9 rfl rfl ?_
        refine go_mref (y := mX11_begins) (pc := 10) dX11_begins_10 fl_X11_7 rfl rfl (by decide) ?_
        refine go_iload_n (y := mX11_begins) (pc := 13) dX11_begins_13 rfl rfl ?_
        refine go_iconst (y := mX11_begins) (pc := 14) dX11_begins_14 ?_
        refine go_nias (y := mX11_begins) (pc := 15) (k := k) dX11_begins_15 (by decide) rfl (by omega) (by omega) ?_
        refine go_iinc (y := mX11_begins) (pc := 16) dX11_begins_16 rfl (by decide) ?_
        refine go_goto (y := mX11_begins) (pc := 19) (tgt := 2) dX11_begins_19 (by decide) ?_
        rw [zr_s]
        exact ih' (by omega) (k + 1) (by omega)
  have h := loop1 418 0 rfl
  rw [zr_0] at h
  refine go_iconst (y := mX11_begins) (pc := 0) dX11_begins_0 ?_
  refine go_istore_n (y := mX11_begins) (pc := 1) dX11_begins_1 rfl (by decide) ?_
  exact h
end MBeg
