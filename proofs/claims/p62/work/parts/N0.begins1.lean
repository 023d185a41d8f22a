/-! BEGINS: the drawn numbers -/
section Beg
variable {D : va_G} {cy : Nat → ClassId} {X0 : Nat → Prop} {ad : Nat → Nat} {F9 : va_W} {d kc ks : Nat} {PQ : Array Value → State → Outcome → State → Prop} {PX : String → State → State → Prop} {L : Nat} {xs : Nat → Int32} {μ : Mem}
set_option maxRecDepth 8000 in
theorem bg_0 (hL : L ≤ 300) (hd : 1 + 1 ≤ d) (K : ∀ v0 v1 v2 v3 v4 v5 v6 v7 : Nat, v0 < 4 → v1 < 4 → v2 < 6 → v3 < 21 → v4 < 12 → v5 < 4 → v6 < 4 → v7 < 12 → gl D cy X0 293 ad F9 d kc ks (mL_begins L xs) PQ PX 94 [.ref 0, .ref 276, .ref 6000, .null, .null] [] (wr (wr (wr (wr (wr (wr (wr (wr μ 276 0 (1 + (v0 : Int))) 276 1 (v1)) 276 2 (1 + (v2 : Int))) 276 3 (v3)) 276 4 (2 + (v4 : Int))) 276 5 (v5)) 276 6 (v6)) 276 8 (1 + (v7 : Int)))) :
    gl D cy X0 293 ad F9 d kc ks (mL_begins L xs) PQ PX 0 [.ref 0, .ref 276, .ref 6000, .null, .null] [] μ := by
  refine gl_aload_n (y := mL_begins L xs) (pc := 0) dL_begins_0 rfl rfl ?_
  refine gl_iconst (y := mL_begins L xs) (pc := 1) dL_begins_1 ?_
  refine gl_aload_n (y := mL_begins L xs) (pc := 2) dL_begins_2 rfl rfl ?_
  refine gl_iconst (y := mL_begins L xs) (pc := 3) dL_begins_3 ?_
  refine gl_iconst (y := mL_begins L xs) (pc := 4) dL_begins_4 ?_
  refine gl_callS (y := mL_begins L xs) (pc := 5) (z' := 0) (d' := 1) (kc' := 0) (ks' := 0) (kc2 := kc) (ks2 := ks) (y' := mL_pick L xs) (as := [.ref 6000, .int (iI ((0 : Nat) : Int)), .int (iI ((4 : Nat) : Int))]) (rest := [.int (iI 1), .ref 276]) dL_begins_5 rfl ml_L_300 (Or.inr rfl) ok_L_pick rfl (show (3 : Nat) ≤ _ from Nat.le_of_ble_eq_true rfl) (by intro v hv; simp only [List.mem_cons, List.not_mem_nil, or_false] at hv; rcases hv with rfl | rfl | rfl <;> rfl) (by decide) (Nat.zero_le _) hd (by omega) (by omega) ?_
  refine l_pick hL (k := 0) (by decide) (n := 4) (by decide) (fun v0 hv0 => ?_)
  show gl D cy X0 293 ad F9 d kc ks (mL_begins L xs) PQ PX 8 [.ref 0, .ref 276, .ref 6000, .null, .null] [.int (iI (v0 : Nat)), .int (iI 1), .ref 276] (μ)
  refine gl_iadd (y := mL_begins L xs) (pc := 8) dL_begins_8 ?_
  refine gl_putI (y := mL_begins L xs) (pc := 9) dL_begins_9 fp_L_168 (ow_sh (c := 276) (Or.inl rfl) 0 (by decide)) rfl (by decide) ⟨by omega, by omega⟩ ?_
  refine gl_aload_n (y := mL_begins L xs) (pc := 12) dL_begins_12 rfl rfl ?_
  refine gl_aload_n (y := mL_begins L xs) (pc := 13) dL_begins_13 rfl rfl ?_
  refine gl_iconst (y := mL_begins L xs) (pc := 14) dL_begins_14 ?_
  refine gl_iconst (y := mL_begins L xs) (pc := 15) dL_begins_15 ?_
  refine gl_callS (y := mL_begins L xs) (pc := 16) (z' := 0) (d' := 1) (kc' := 0) (ks' := 0) (kc2 := kc) (ks2 := ks) (y' := mL_pick L xs) (as := [.ref 6000, .int (iI ((1 : Nat) : Int)), .int (iI ((4 : Nat) : Int))]) (rest := [.ref 276]) dL_begins_16 rfl ml_L_300 (Or.inr rfl) ok_L_pick rfl (show (3 : Nat) ≤ _ from Nat.le_of_ble_eq_true rfl) (by intro v hv; simp only [List.mem_cons, List.not_mem_nil, or_false] at hv; rcases hv with rfl | rfl | rfl <;> rfl) (by decide) (Nat.zero_le _) hd (by omega) (by omega) ?_
  refine l_pick hL (k := 1) (by decide) (n := 4) (by decide) (fun v1 hv1 => ?_)
  show gl D cy X0 293 ad F9 d kc ks (mL_begins L xs) PQ PX 19 [.ref 0, .ref 276, .ref 6000, .null, .null] [.int (iI (v1 : Nat)), .ref 276] (wr μ 276 0 (1 + (v0 : Int)))
  refine gl_putI (y := mL_begins L xs) (pc := 19) dL_begins_19 fp_L_336 (ow_sh (c := 276) (Or.inl rfl) 0 (by decide)) rfl (by decide) ⟨by omega, by omega⟩ ?_
  refine gl_aload_n (y := mL_begins L xs) (pc := 22) dL_begins_22 rfl rfl ?_
  refine gl_iconst (y := mL_begins L xs) (pc := 23) dL_begins_23 ?_
  refine gl_aload_n (y := mL_begins L xs) (pc := 24) dL_begins_24 rfl rfl ?_
  refine gl_iconst (y := mL_begins L xs) (pc := 25) dL_begins_25 ?_
  refine gl_bipush (y := mL_begins L xs) (pc := 26) dL_begins_26 (by decide) ?_
  refine gl_callS (y := mL_begins L xs) (pc := 28) (z' := 0) (d' := 1) (kc' := 0) (ks' := 0) (kc2 := kc) (ks2 := ks) (y' := mL_pick L xs) (as := [.ref 6000, .int (iI ((2 : Nat) : Int)), .int (iI ((6 : Nat) : Int))]) (rest := [.int (iI 1), .ref 276]) dL_begins_28 rfl ml_L_300 (Or.inr rfl) ok_L_pick rfl (show (3 : Nat) ≤ _ from Nat.le_of_ble_eq_true rfl) (by intro v hv; simp only [List.mem_cons, List.not_mem_nil, or_false] at hv; rcases hv with rfl | rfl | rfl <;> rfl) (by decide) (Nat.zero_le _) hd (by omega) (by omega) ?_
  refine l_pick hL (k := 2) (by decide) (n := 6) (by decide) (fun v2 hv2 => ?_)
  show gl D cy X0 293 ad F9 d kc ks (mL_begins L xs) PQ PX 31 [.ref 0, .ref 276, .ref 6000, .null, .null] [.int (iI (v2 : Nat)), .int (iI 1), .ref 276] (wr (wr μ 276 0 (1 + (v0 : Int))) 276 1 (v1))
  refine gl_iadd (y := mL_begins L xs) (pc := 31) dL_begins_31 ?_
  refine gl_putI (y := mL_begins L xs) (pc := 32) dL_begins_32 fp_L_339 (ow_sh (c := 276) (Or.inl rfl) 0 (by decide)) rfl (by decide) ⟨by omega, by omega⟩ ?_
  refine gl_aload_n (y := mL_begins L xs) (pc := 35) dL_begins_35 rfl rfl ?_
  refine gl_aload_n (y := mL_begins L xs) (pc := 36) dL_begins_36 rfl rfl ?_
  refine gl_iconst (y := mL_begins L xs) (pc := 37) dL_begins_37 ?_
  refine gl_bipush (y := mL_begins L xs) (pc := 38) dL_begins_38 (by decide) ?_
  refine gl_callS (y := mL_begins L xs) (pc := 40) (z' := 0) (d' := 1) (kc' := 0) (ks' := 0) (kc2 := kc) (ks2 := ks) (y' := mL_pick L xs) (as := [.ref 6000, .int (iI ((3 : Nat) : Int)), .int (iI ((21 : Nat) : Int))]) (rest := [.ref 276]) dL_begins_40 rfl ml_L_300 (Or.inr rfl) ok_L_pick rfl (show (3 : Nat) ≤ _ from Nat.le_of_ble_eq_true rfl) (by intro v hv; simp only [List.mem_cons, List.not_mem_nil, or_false] at hv; rcases hv with rfl | rfl | rfl <;> rfl) (by decide) (Nat.zero_le _) hd (by omega) (by omega) ?_
  refine l_pick hL (k := 3) (by decide) (n := 21) (by decide) (fun v3 hv3 => ?_)
  show gl D cy X0 293 ad F9 d kc ks (mL_begins L xs) PQ PX 43 [.ref 0, .ref 276, .ref 6000, .null, .null] [.int (iI (v3 : Nat)), .ref 276] (wr (wr (wr μ 276 0 (1 + (v0 : Int))) 276 1 (v1)) 276 2 (1 + (v2 : Int)))
  refine gl_putI (y := mL_begins L xs) (pc := 43) dL_begins_43 fp_L_342 (ow_sh (c := 276) (Or.inl rfl) 0 (by decide)) rfl (by decide) ⟨by omega, by omega⟩ ?_
  refine gl_aload_n (y := mL_begins L xs) (pc := 46) dL_begins_46 rfl rfl ?_
  refine gl_iconst (y := mL_begins L xs) (pc := 47) dL_begins_47 ?_
  refine gl_aload_n (y := mL_begins L xs) (pc := 48) dL_begins_48 rfl rfl ?_
  refine gl_iconst (y := mL_begins L xs) (pc := 49) dL_begins_49 ?_
  refine gl_bipush (y := mL_begins L xs) (pc := 50) dL_begins_50 (by decide) ?_
  refine gl_callS (y := mL_begins L xs) (pc := 52) (z' := 0) (d' := 1) (kc' := 0) (ks' := 0) (kc2 := kc) (ks2 := ks) (y' := mL_pick L xs) (as := [.ref 6000, .int (iI ((4 : Nat) : Int)), .int (iI ((12 : Nat) : Int))]) (rest := [.int (iI 2), .ref 276]) dL_begins_52 rfl ml_L_300 (Or.inr rfl) ok_L_pick rfl (show (3 : Nat) ≤ _ from Nat.le_of_ble_eq_true rfl) (by intro v hv; simp only [List.mem_cons, List.not_mem_nil, or_false] at hv; rcases hv with rfl | rfl | rfl <;> rfl) (by decide) (Nat.zero_le _) hd (by omega) (by omega) ?_
  refine l_pick hL (k := 4) (by decide) (n := 12) (by decide) (fun v4 hv4 => ?_)
  show gl D cy X0 293 ad F9 d kc ks (mL_begins L xs) PQ PX 55 [.ref 0, .ref 276, .ref 6000, .null, .null] [.int (iI (v4 : Nat)), .int (iI 2), .ref 276] (wr (wr (wr (wr μ 276 0 (1 + (v0 : Int))) 276 1 (v1)) 276 2 (1 + (v2 : Int))) 276 3 (v3))
  refine gl_iadd (y := mL_begins L xs) (pc := 55) dL_begins_55 ?_
  refine gl_putI (y := mL_begins L xs) (pc := 56) dL_begins_56 fp_L_345 (ow_sh (c := 276) (Or.inl rfl) 0 (by decide)) rfl (by decide) ⟨by omega, by omega⟩ ?_
  refine gl_aload_n (y := mL_begins L xs) (pc := 59) dL_begins_59 rfl rfl ?_
  refine gl_aload_n (y := mL_begins L xs) (pc := 60) dL_begins_60 rfl rfl ?_
  refine gl_iconst (y := mL_begins L xs) (pc := 61) dL_begins_61 ?_
  refine gl_iconst (y := mL_begins L xs) (pc := 62) dL_begins_62 ?_
  refine gl_callS (y := mL_begins L xs) (pc := 63) (z' := 0) (d' := 1) (kc' := 0) (ks' := 0) (kc2 := kc) (ks2 := ks) (y' := mL_pick L xs) (as := [.ref 6000, .int (iI ((5 : Nat) : Int)), .int (iI ((4 : Nat) : Int))]) (rest := [.ref 276]) dL_begins_63 rfl ml_L_300 (Or.inr rfl) ok_L_pick rfl (show (3 : Nat) ≤ _ from Nat.le_of_ble_eq_true rfl) (by intro v hv; simp only [List.mem_cons, List.not_mem_nil, or_false] at hv; rcases hv with rfl | rfl | rfl <;> rfl) (by decide) (Nat.zero_le _) hd (by omega) (by omega) ?_
  refine l_pick hL (k := 5) (by decide) (n := 4) (by decide) (fun v5 hv5 => ?_)
  show gl D cy X0 293 ad F9 d kc ks (mL_begins L xs) PQ PX 66 [.ref 0, .ref 276, .ref 6000, .null, .null] [.int (iI (v5 : Nat)), .ref 276] (wr (wr (wr (wr (wr μ 276 0 (1 + (v0 : Int))) 276 1 (v1)) 276 2 (1 + (v2 : Int))) 276 3 (v3)) 276 4 (2 + (v4 : Int)))
  refine gl_putI (y := mL_begins L xs) (pc := 66) dL_begins_66 fp_L_348 (ow_sh (c := 276) (Or.inl rfl) 0 (by decide)) rfl (by decide) ⟨by omega, by omega⟩ ?_
  refine gl_aload_n (y := mL_begins L xs) (pc := 69) dL_begins_69 rfl rfl ?_
  refine gl_aload_n (y := mL_begins L xs) (pc := 70) dL_begins_70 rfl rfl ?_
  refine gl_bipush (y := mL_begins L xs) (pc := 71) dL_begins_71 (by decide) ?_
  refine gl_iconst (y := mL_begins L xs) (pc := 73) dL_begins_73 ?_
  refine gl_callS (y := mL_begins L xs) (pc := 74) (z' := 0) (d' := 1) (kc' := 0) (ks' := 0) (kc2 := kc) (ks2 := ks) (y' := mL_pick L xs) (as := [.ref 6000, .int (iI ((6 : Nat) : Int)), .int (iI ((4 : Nat) : Int))]) (rest := [.ref 276]) dL_begins_74 rfl ml_L_300 (Or.inr rfl) ok_L_pick rfl (show (3 : Nat) ≤ _ from Nat.le_of_ble_eq_true rfl) (by intro v hv; simp only [List.mem_cons, List.not_mem_nil, or_false] at hv; rcases hv with rfl | rfl | rfl <;> rfl) (by decide) (Nat.zero_le _) hd (by omega) (by omega) ?_
  refine l_pick hL (k := 6) (by decide) (n := 4) (by decide) (fun v6 hv6 => ?_)
  show gl D cy X0 293 ad F9 d kc ks (mL_begins L xs) PQ PX 77 [.ref 0, .ref 276, .ref 6000, .null, .null] [.int (iI (v6 : Nat)), .ref 276] (wr (wr (wr (wr (wr (wr μ 276 0 (1 + (v0 : Int))) 276 1 (v1)) 276 2 (1 + (v2 : Int))) 276 3 (v3)) 276 4 (2 + (v4 : Int))) 276 5 (v5))
  refine gl_putI (y := mL_begins L xs) (pc := 77) dL_begins_77 fp_L_351 (ow_sh (c := 276) (Or.inl rfl) 0 (by decide)) rfl (by decide) ⟨by omega, by omega⟩ ?_
  refine gl_aload_n (y := mL_begins L xs) (pc := 80) dL_begins_80 rfl rfl ?_
  refine gl_iconst (y := mL_begins L xs) (pc := 81) dL_begins_81 ?_
  refine gl_aload_n (y := mL_begins L xs) (pc := 82) dL_begins_82 rfl rfl ?_
  refine gl_bipush (y := mL_begins L xs) (pc := 83) dL_begins_83 (by decide) ?_
  refine gl_bipush (y := mL_begins L xs) (pc := 85) dL_begins_85 (by decide) ?_
  refine gl_callS (y := mL_begins L xs) (pc := 87) (z' := 0) (d' := 1) (kc' := 0) (ks' := 0) (kc2 := kc) (ks2 := ks) (y' := mL_pick L xs) (as := [.ref 6000, .int (iI ((7 : Nat) : Int)), .int (iI ((12 : Nat) : Int))]) (rest := [.int (iI 1), .ref 276]) dL_begins_87 rfl ml_L_300 (Or.inr rfl) ok_L_pick rfl (show (3 : Nat) ≤ _ from Nat.le_of_ble_eq_true rfl) (by intro v hv; simp only [List.mem_cons, List.not_mem_nil, or_false] at hv; rcases hv with rfl | rfl | rfl <;> rfl) (by decide) (Nat.zero_le _) hd (by omega) (by omega) ?_
  refine l_pick hL (k := 7) (by decide) (n := 12) (by decide) (fun v7 hv7 => ?_)
  show gl D cy X0 293 ad F9 d kc ks (mL_begins L xs) PQ PX 90 [.ref 0, .ref 276, .ref 6000, .null, .null] [.int (iI (v7 : Nat)), .int (iI 1), .ref 276] (wr (wr (wr (wr (wr (wr (wr μ 276 0 (1 + (v0 : Int))) 276 1 (v1)) 276 2 (1 + (v2 : Int))) 276 3 (v3)) 276 4 (2 + (v4 : Int))) 276 5 (v5)) 276 6 (v6))
  refine gl_iadd (y := mL_begins L xs) (pc := 90) dL_begins_90 ?_
  refine gl_putI (y := mL_begins L xs) (pc := 91) dL_begins_91 fp_L_50 (ow_sh (c := 276) (Or.inl rfl) 0 (by decide)) rfl (by decide) ⟨by omega, by omega⟩ ?_
  exact K v0 v1 v2 v3 v4 v5 v6 v7 hv0 hv1 hv2 hv3 hv4 hv5 hv6 hv7
end Beg
