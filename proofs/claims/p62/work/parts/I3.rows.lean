/-! CONSTRUCTORS of rows, of a chamber, of the history -/
theorem ff_X0_9 : flkF RX0 9 4 0 (.array .int) := ⟨RX0, TX0, 5, tyX0, rfl, by decide, (tb_in 262 (by decide +kernel) (by decide +kernel)), iaX0, tyX0_ok, nmX0, rfl, rfl, rfl, by decide +kernel⟩
theorem ff_X0_15 : flkF RX0 15 4 1 (.array .int) := ⟨RX0, TX0, 5, tyX0, rfl, by decide, (tb_in 265 (by decide +kernel) (by decide +kernel)), iaX0, tyX0_ok, nmX0, rfl, rfl, rfl, by decide +kernel⟩
theorem ff_X0_18 : flkF RX0 18 4 2 (.array .int) := ⟨RX0, TX0, 5, tyX0, rfl, by decide, (tb_in 268 (by decide +kernel) (by decide +kernel)), iaX0, tyX0_ok, nmX0, rfl, rfl, rfl, by decide +kernel⟩
theorem ff_X0_21 : flkF RX0 21 4 3 (.array .int) := ⟨RX0, TX0, 5, tyX0, rfl, by decide, (tb_in 270 (by decide +kernel) (by decide +kernel)), iaX0, tyX0_ok, nmX0, rfl, rfl, rfl, by decide +kernel⟩
theorem ff_X0_24 : flkF RX0 24 4 4 (.array .int) := ⟨RX0, TX0, 5, tyX0, rfl, by decide, (tb_in 273 (by decide +kernel) (by decide +kernel)), iaX0, tyX0_ok, nmX0, rfl, rfl, rfl, by decide +kernel⟩
theorem ff_X1_12 : flkF RX1 12 5 1 (.object "BarberParliament$Members") := ⟨RX1, TX1, 11, tyX1, rfl, by decide, (tb_in 287 (by decide +kernel) (by decide +kernel)), iaX1, tyX1_ok, nmX1, rfl, rfl, rfl, by decide +kernel⟩
theorem ff_X1_21 : flkF RX1 21 5 2 (.object "BarberParliament$Motions") := ⟨RX1, TX1, 11, tyX1, rfl, by decide, (tb_in 289 (by decide +kernel) (by decide +kernel)), iaX1, tyX1_ok, nmX1, rfl, rfl, rfl, by decide +kernel⟩
theorem ff_X1_28 : flkF RX1 28 5 3 (.object "BarberParliament$Requests") := ⟨RX1, TX1, 11, tyX1, rfl, by decide, (tb_in 291 (by decide +kernel) (by decide +kernel)), iaX1, tyX1_ok, nmX1, rfl, rfl, rfl, by decide +kernel⟩
theorem ff_X1_35 : flkF RX1 35 5 4 (.object "BarberParliament$Chairs") := ⟨RX1, TX1, 11, tyX1, rfl, by decide, (tb_in 293 (by decide +kernel) (by decide +kernel)), iaX1, tyX1_ok, nmX1, rfl, rfl, rfl, by decide +kernel⟩
theorem ff_X1_39 : flkF RX1 39 5 0 (.object "BarberParliament$Setup") := ⟨RX1, TX1, 11, tyX1, rfl, by decide, (tb_in 286 (by decide +kernel) (by decide +kernel)), iaX1, tyX1_ok, nmX1, rfl, rfl, rfl, by decide +kernel⟩
theorem ff_X2_11 : flkF RX2 11 6 0 (.array (.object "BarberParliament$Chamber")) := ⟨RX2, TX2, 3, tyX2, rfl, by decide, (tb_in 338 (by decide +kernel) (by decide +kernel)), iaX2, tyX2_ok, nmX2, rfl, rfl, rfl, by decide +kernel⟩
theorem ff_X3_9 : flkF RX3 9 7 0 (.array .int) := ⟨RX3, TX3, 3, tyX3, rfl, by decide, (tb_in 181 (by decide +kernel) (by decide +kernel)), iaX3, tyX3_ok, nmX3, rfl, rfl, rfl, by decide +kernel⟩
theorem ff_X3_15 : flkF RX3 15 7 1 (.array .int) := ⟨RX3, TX3, 3, tyX3, rfl, by decide, (tb_in 184 (by decide +kernel) (by decide +kernel)), iaX3, tyX3_ok, nmX3, rfl, rfl, rfl, by decide +kernel⟩
theorem ff_X3_18 : flkF RX3 18 7 2 (.array .int) := ⟨RX3, TX3, 3, tyX3, rfl, by decide, (tb_in 187 (by decide +kernel) (by decide +kernel)), iaX3, tyX3_ok, nmX3, rfl, rfl, rfl, by decide +kernel⟩
theorem ff_X4_9 : flkF RX4 9 8 1 (.array .int) := ⟨RX4, TX4, 6, tyX4, rfl, by decide, (tb_in 206 (by decide +kernel) (by decide +kernel)), iaX4, tyX4_ok, nmX4, rfl, rfl, rfl, by decide +kernel⟩
theorem ff_X4_15 : flkF RX4 15 8 2 (.array .int) := ⟨RX4, TX4, 6, tyX4, rfl, by decide, (tb_in 209 (by decide +kernel) (by decide +kernel)), iaX4, tyX4_ok, nmX4, rfl, rfl, rfl, by decide +kernel⟩
theorem ff_X4_18 : flkF RX4 18 8 3 (.array .int) := ⟨RX4, TX4, 6, tyX4, rfl, by decide, (tb_in 212 (by decide +kernel) (by decide +kernel)), iaX4, tyX4_ok, nmX4, rfl, rfl, rfl, by decide +kernel⟩
theorem ff_X4_21 : flkF RX4 21 8 4 (.array .int) := ⟨RX4, TX4, 6, tyX4, rfl, by decide, (tb_in 215 (by decide +kernel) (by decide +kernel)), iaX4, tyX4_ok, nmX4, rfl, rfl, rfl, by decide +kernel⟩
theorem ff_X4_24 : flkF RX4 24 8 5 (.array .int) := ⟨RX4, TX4, 6, tyX4, rfl, by decide, (tb_in 217 (by decide +kernel) (by decide +kernel)), iaX4, tyX4_ok, nmX4, rfl, rfl, rfl, by decide +kernel⟩
theorem ff_X5_9 : flkF RX5 9 9 1 (.array .int) := ⟨RX5, TX5, 4, tyX5, rfl, by decide, (tb_in 240 (by decide +kernel) (by decide +kernel)), iaX5, tyX5_ok, nmX5, rfl, rfl, rfl, by decide +kernel⟩
theorem ff_X5_15 : flkF RX5 15 9 2 (.array .int) := ⟨RX5, TX5, 4, tyX5, rfl, by decide, (tb_in 243 (by decide +kernel) (by decide +kernel)), iaX5, tyX5_ok, nmX5, rfl, rfl, rfl, by decide +kernel⟩
theorem ff_X5_18 : flkF RX5 18 9 3 (.array .int) := ⟨RX5, TX5, 4, tyX5, rfl, by decide, (tb_in 245 (by decide +kernel) (by decide +kernel)), iaX5, tyX5_ok, nmX5, rfl, rfl, rfl, by decide +kernel⟩
theorem ff_X6_9 : flkF RX6 9 10 0 (.array .int) := ⟨RX6, TX6, 8, tyX6, rfl, by decide, (tb_in 90 (by decide +kernel) (by decide +kernel)), iaX6, tyX6_ok, nmX6, rfl, rfl, rfl, by decide +kernel⟩
theorem ff_X6_15 : flkF RX6 15 10 1 (.array .int) := ⟨RX6, TX6, 8, tyX6, rfl, by decide, (tb_in 91 (by decide +kernel) (by decide +kernel)), iaX6, tyX6_ok, nmX6, rfl, rfl, rfl, by decide +kernel⟩
theorem ff_X6_18 : flkF RX6 18 10 2 (.array .int) := ⟨RX6, TX6, 8, tyX6, rfl, by decide, (tb_in 92 (by decide +kernel) (by decide +kernel)), iaX6, tyX6_ok, nmX6, rfl, rfl, rfl, by decide +kernel⟩
theorem ff_X6_21 : flkF RX6 21 10 3 (.array .int) := ⟨RX6, TX6, 8, tyX6, rfl, by decide, (tb_in 93 (by decide +kernel) (by decide +kernel)), iaX6, tyX6_ok, nmX6, rfl, rfl, rfl, by decide +kernel⟩
theorem ff_X6_24 : flkF RX6 24 10 4 (.array .int) := ⟨RX6, TX6, 8, tyX6, rfl, by decide, (tb_in 94 (by decide +kernel) (by decide +kernel)), iaX6, tyX6_ok, nmX6, rfl, rfl, rfl, by decide +kernel⟩
theorem ff_X7_9 : flkF RX7 9 11 8 (.array .int) := ⟨RX7, TX7, 12, tyX7, rfl, by decide, (tb_in 136 (by decide +kernel) (by decide +kernel)), iaX7, tyX7_ok, nmX7, rfl, rfl, rfl, by decide +kernel⟩
theorem ff_X7_15 : flkF RX7 15 11 9 (.array .int) := ⟨RX7, TX7, 12, tyX7, rfl, by decide, (tb_in 137 (by decide +kernel) (by decide +kernel)), iaX7, tyX7_ok, nmX7, rfl, rfl, rfl, by decide +kernel⟩
theorem ff_X7_18 : flkF RX7 18 11 10 (.array .int) := ⟨RX7, TX7, 12, tyX7, rfl, by decide, (tb_in 140 (by decide +kernel) (by decide +kernel)), iaX7, tyX7_ok, nmX7, rfl, rfl, rfl, by decide +kernel⟩
theorem ff_X7_21 : flkF RX7 21 11 11 (.array .int) := ⟨RX7, TX7, 12, tyX7, rfl, by decide, (tb_in 142 (by decide +kernel) (by decide +kernel)), iaX7, tyX7_ok, nmX7, rfl, rfl, rfl, by decide +kernel⟩
theorem ff_X8_9 : flkF RX8 9 12 0 (.array .byte) := ⟨RX8, TX8, 2, tyX8, rfl, by decide, (tb_in 47 (by decide +kernel) (by decide +kernel)), iaX8, tyX8_ok, nmX8, rfl, rfl, rfl, by decide +kernel⟩
theorem ff_X9_9 : flkF RX9 9 13 0 (.object "BarberParliament$Text") := ⟨RX9, TX9, 6, tyX9, rfl, by decide, (tb_in 63 (by decide +kernel) (by decide +kernel)), iaX9, tyX9_ok, nmX9, rfl, rfl, rfl, by decide +kernel⟩
theorem ff_X10_10 : flkF RX10 10 14 0 (.object "BarberParliament$Text") := ⟨RX10, TX10, 11, tyX10, rfl, by decide, (tb_in 560 (by decide +kernel) (by decide +kernel)), iaX10, tyX10_ok, nmX10, rfl, rfl, rfl, by decide +kernel⟩
theorem ff_X10_21 : flkF RX10 21 14 1 (.object "BarberParliament$TextReader") := ⟨RX10, TX10, 11, tyX10, rfl, by decide, (tb_in 561 (by decide +kernel) (by decide +kernel)), iaX10, tyX10_ok, nmX10, rfl, rfl, rfl, by decide +kernel⟩
theorem ff_X10_28 : flkF RX10 28 14 2 (.object "BarberParliament$Script") := ⟨RX10, TX10, 11, tyX10, rfl, by decide, (tb_in 562 (by decide +kernel) (by decide +kernel)), iaX10, tyX10_ok, nmX10, rfl, rfl, rfl, by decide +kernel⟩
theorem ff_X10_35 : flkF RX10 35 14 3 (.object "BarberParliament$Setup") := ⟨RX10, TX10, 11, tyX10, rfl, by decide, (tb_in 563 (by decide +kernel) (by decide +kernel)), iaX10, tyX10_ok, nmX10, rfl, rfl, rfl, by decide +kernel⟩
theorem ff_X10_39 : flkF RX10 39 14 4 (.object "BarberParliament$Setup") := ⟨RX10, TX10, 11, tyX10, rfl, by decide, (tb_in 564 (by decide +kernel) (by decide +kernel)), iaX10, tyX10_ok, nmX10, rfl, rfl, rfl, by decide +kernel⟩
theorem ff_X10_47 : flkF RX10 47 14 5 (.object "BarberParliament$Chamber") := ⟨RX10, TX10, 11, tyX10, rfl, by decide, (tb_in 565 (by decide +kernel) (by decide +kernel)), iaX10, tyX10_ok, nmX10, rfl, rfl, rfl, by decide +kernel⟩
theorem ff_X10_51 : flkF RX10 51 14 6 (.object "BarberParliament$Chamber") := ⟨RX10, TX10, 11, tyX10, rfl, by decide, (tb_in 566 (by decide +kernel) (by decide +kernel)), iaX10, tyX10_ok, nmX10, rfl, rfl, rfl, by decide +kernel⟩
theorem ff_X10_57 : flkF RX10 57 14 7 (.object "BarberParliament$History") := ⟨RX10, TX10, 11, tyX10, rfl, by decide, (tb_in 567 (by decide +kernel) (by decide +kernel)), iaX10, tyX10_ok, nmX10, rfl, rfl, rfl, by decide +kernel⟩
theorem ff_X10_61 : flkF RX10 61 14 8 (.array (.object "BarberParliament$Chamber")) := ⟨RX10, TX10, 11, tyX10, rfl, by decide, (tb_in 568 (by decide +kernel) (by decide +kernel)), iaX10, tyX10_ok, nmX10, rfl, rfl, rfl, by decide +kernel⟩
theorem ff_X10_65 : flkF RX10 65 14 9 (.array .boolean) := ⟨RX10, TX10, 11, tyX10, rfl, by decide, (tb_in 569 (by decide +kernel) (by decide +kernel)), iaX10, tyX10_ok, nmX10, rfl, rfl, rfl, by decide +kernel⟩
theorem ff_X10_72 : flkF RX10 72 14 10 (.object "java/lang/StringBuilder") := ⟨RX10, TX10, 11, tyX10, rfl, by decide, (tb_in 570 (by decide +kernel) (by decide +kernel)), iaX10, tyX10_ok, nmX10, rfl, rfl, rfl, by decide +kernel⟩
def clX0 (cy : Nat → ClassId) (ad : Nat → Nat) (b : Nat) : va_W := [(ad b, .inr (4, [.ref (ad (b + 1)), .ref (ad (b + 2)), .ref (ad (b + 3)), .ref (ad (b + 4)), .ref (ad (b + 5))])), (ad (b + 1), .inl (cy 0, 4, .inl (fun _ => iI 0))), (ad (b + 2), .inl (cy 0, 4, .inl (fun _ => iI 0))), (ad (b + 3), .inl (cy 0, 4, .inl (fun _ => iI 0))), (ad (b + 4), .inl (cy 0, 4, .inl (fun _ => iI 0))), (ad (b + 5), .inl (cy 0, 4, .inl (fun _ => iI 0)))]
theorem K_X0 {D : va_G} {cy : Nat → ClassId} {X0 : Nat → Prop} {ad : Nat → Nat} {V ws wf : va_W} {b h : Nat} (hw : ws = V ++ [(ad b, .inr (4, [.null, .null, .null, .null, .null]))]) (hf : V ++ clX0 cy ad b = wf) (had : ∀ i, i < 5 → ad (b + 1 + i) = h + i) :
    gc D cy X0 ad 1 5 20 mX0_init (gcQ D X0 (fun w h' => w = wf ∧ h' = h + 5)) noX 0 [.ref b] [] ws h := by
  subst hw
  refine gc_aload_n dX0_init_0 rfl rfl ?_
  refine gc_obj dX0_init_1 (tb_in 261 (by decide +kernel) (by decide +kernel)) (by decide) (by decide) ?_
  refine gc_aload_n dX0_init_4 rfl rfl ?_
  refine gc_iconst dX0_init_5 ?_
  refine gc_newa (N := 4) (k := b + 1) (t := 0) (W0 := V) (L := [(ad b, .inr (4, [.null, .null, .null, .null, .null]))]) (kc := 4) (ks := 16) (ty := .int) (a0 := (4, .inl (fun _ => iI 0))) dX0_init_6 rfl (tb_in 112 (by decide +kernel) (by decide +kernel)) (fun cA => cell_0) rfl rfl (by decide) (by decide) (had 0 (by decide)) ?_
  refine gc_putF (W0 := V) (L := [(ad b, .inr (4, [.null, .null, .null, .null, .null])), (ad (b + 1), .inl (cy 0, 4, .inl (fun _ => iI 0)))]) 0 dX0_init_8 ff_X0_9 rfl rfl rfl rfl (show (0 : Nat) < 5 by decide) ?_
  refine gc_aload_n dX0_init_11 rfl rfl ?_
  refine gc_iconst dX0_init_12 ?_
  refine gc_newa (N := 4) (k := b + 2) (t := 0) (W0 := V) (L := [(ad b, .inr (4, [.ref (ad (b + 1)), .null, .null, .null, .null])), (ad (b + 1), .inl (cy 0, 4, .inl (fun _ => iI 0)))]) (kc := 3) (ks := 12) (ty := .int) (a0 := (4, .inl (fun _ => iI 0))) dX0_init_13 rfl (tb_in 112 (by decide +kernel) (by decide +kernel)) (fun cA => cell_0) rfl rfl (by decide) (by decide) (had 1 (by decide)) ?_
  refine gc_putF (W0 := V) (L := [(ad b, .inr (4, [.ref (ad (b + 1)), .null, .null, .null, .null])), (ad (b + 1), .inl (cy 0, 4, .inl (fun _ => iI 0))), (ad (b + 2), .inl (cy 0, 4, .inl (fun _ => iI 0)))]) 0 dX0_init_15 ff_X0_15 rfl rfl rfl rfl (show (1 : Nat) < 5 by decide) ?_
  refine gc_aload_n dX0_init_18 rfl rfl ?_
  refine gc_iconst dX0_init_19 ?_
  refine gc_newa (N := 4) (k := b + 3) (t := 0) (W0 := V) (L := [(ad b, .inr (4, [.ref (ad (b + 1)), .ref (ad (b + 2)), .null, .null, .null])), (ad (b + 1), .inl (cy 0, 4, .inl (fun _ => iI 0))), (ad (b + 2), .inl (cy 0, 4, .inl (fun _ => iI 0)))]) (kc := 2) (ks := 8) (ty := .int) (a0 := (4, .inl (fun _ => iI 0))) dX0_init_20 rfl (tb_in 112 (by decide +kernel) (by decide +kernel)) (fun cA => cell_0) rfl rfl (by decide) (by decide) (had 2 (by decide)) ?_
  refine gc_putF (W0 := V) (L := [(ad b, .inr (4, [.ref (ad (b + 1)), .ref (ad (b + 2)), .null, .null, .null])), (ad (b + 1), .inl (cy 0, 4, .inl (fun _ => iI 0))), (ad (b + 2), .inl (cy 0, 4, .inl (fun _ => iI 0))), (ad (b + 3), .inl (cy 0, 4, .inl (fun _ => iI 0)))]) 0 dX0_init_22 ff_X0_18 rfl rfl rfl rfl (show (2 : Nat) < 5 by decide) ?_
  refine gc_aload_n dX0_init_25 rfl rfl ?_
  refine gc_iconst dX0_init_26 ?_
  refine gc_newa (N := 4) (k := b + 4) (t := 0) (W0 := V) (L := [(ad b, .inr (4, [.ref (ad (b + 1)), .ref (ad (b + 2)), .ref (ad (b + 3)), .null, .null])), (ad (b + 1), .inl (cy 0, 4, .inl (fun _ => iI 0))), (ad (b + 2), .inl (cy 0, 4, .inl (fun _ => iI 0))), (ad (b + 3), .inl (cy 0, 4, .inl (fun _ => iI 0)))]) (kc := 1) (ks := 4) (ty := .int) (a0 := (4, .inl (fun _ => iI 0))) dX0_init_27 rfl (tb_in 112 (by decide +kernel) (by decide +kernel)) (fun cA => cell_0) rfl rfl (by decide) (by decide) (had 3 (by decide)) ?_
  refine gc_putF (W0 := V) (L := [(ad b, .inr (4, [.ref (ad (b + 1)), .ref (ad (b + 2)), .ref (ad (b + 3)), .null, .null])), (ad (b + 1), .inl (cy 0, 4, .inl (fun _ => iI 0))), (ad (b + 2), .inl (cy 0, 4, .inl (fun _ => iI 0))), (ad (b + 3), .inl (cy 0, 4, .inl (fun _ => iI 0))), (ad (b + 4), .inl (cy 0, 4, .inl (fun _ => iI 0)))]) 0 dX0_init_29 ff_X0_21 rfl rfl rfl rfl (show (3 : Nat) < 5 by decide) ?_
  refine gc_aload_n dX0_init_32 rfl rfl ?_
  refine gc_iconst dX0_init_33 ?_
  refine gc_newa (N := 4) (k := b + 5) (t := 0) (W0 := V) (L := [(ad b, .inr (4, [.ref (ad (b + 1)), .ref (ad (b + 2)), .ref (ad (b + 3)), .ref (ad (b + 4)), .null])), (ad (b + 1), .inl (cy 0, 4, .inl (fun _ => iI 0))), (ad (b + 2), .inl (cy 0, 4, .inl (fun _ => iI 0))), (ad (b + 3), .inl (cy 0, 4, .inl (fun _ => iI 0))), (ad (b + 4), .inl (cy 0, 4, .inl (fun _ => iI 0)))]) (kc := 0) (ks := 0) (ty := .int) (a0 := (4, .inl (fun _ => iI 0))) dX0_init_34 rfl (tb_in 112 (by decide +kernel) (by decide +kernel)) (fun cA => cell_0) rfl rfl (by decide) (by decide) (had 4 (by decide)) ?_
  refine gc_putF (W0 := V) (L := [(ad b, .inr (4, [.ref (ad (b + 1)), .ref (ad (b + 2)), .ref (ad (b + 3)), .ref (ad (b + 4)), .null])), (ad (b + 1), .inl (cy 0, 4, .inl (fun _ => iI 0))), (ad (b + 2), .inl (cy 0, 4, .inl (fun _ => iI 0))), (ad (b + 3), .inl (cy 0, 4, .inl (fun _ => iI 0))), (ad (b + 4), .inl (cy 0, 4, .inl (fun _ => iI 0))), (ad (b + 5), .inl (cy 0, 4, .inl (fun _ => iI 0)))]) 0 dX0_init_36 ff_X0_24 rfl rfl rfl rfl (show (4 : Nat) < 5 by decide) ?_
  exact gc_return dX0_init_39 rfl ⟨hf, rfl⟩
def clX3 (cy : Nat → ClassId) (ad : Nat → Nat) (b : Nat) : va_W := [(ad b, .inr (7, [.ref (ad (b + 1)), .ref (ad (b + 2)), .ref (ad (b + 3))])), (ad (b + 1), .inl (cy 0, 12, .inl (fun _ => iI 0))), (ad (b + 2), .inl (cy 0, 12, .inl (fun _ => iI 0))), (ad (b + 3), .inl (cy 0, 12, .inl (fun _ => iI 0)))]
theorem K_X3 {D : va_G} {cy : Nat → ClassId} {X0 : Nat → Prop} {ad : Nat → Nat} {V ws wf : va_W} {b h : Nat} (hw : ws = V ++ [(ad b, .inr (7, [.null, .null, .null]))]) (hf : V ++ clX3 cy ad b = wf) (had : ∀ i, i < 3 → ad (b + 1 + i) = h + i) :
    gc D cy X0 ad 1 3 36 mX3_init (gcQ D X0 (fun w h' => w = wf ∧ h' = h + 3)) noX 0 [.ref b] [] ws h := by
  subst hw
  refine gc_aload_n dX3_init_0 rfl rfl ?_
  refine gc_obj dX3_init_1 (tb_in 180 (by decide +kernel) (by decide +kernel)) (by decide) (by decide) ?_
  refine gc_aload_n dX3_init_4 rfl rfl ?_
  refine gc_bipush dX3_init_5 (by decide) ?_
  refine gc_newa (N := 12) (k := b + 1) (t := 0) (W0 := V) (L := [(ad b, .inr (7, [.null, .null, .null]))]) (kc := 2) (ks := 24) (ty := .int) (a0 := (12, .inl (fun _ => iI 0))) dX3_init_7 rfl (tb_in 112 (by decide +kernel) (by decide +kernel)) (fun cA => cell_0) rfl rfl (by decide) (by decide) (had 0 (by decide)) ?_
  refine gc_putF (W0 := V) (L := [(ad b, .inr (7, [.null, .null, .null])), (ad (b + 1), .inl (cy 0, 12, .inl (fun _ => iI 0)))]) 0 dX3_init_9 ff_X3_9 rfl rfl rfl rfl (show (0 : Nat) < 3 by decide) ?_
  refine gc_aload_n dX3_init_12 rfl rfl ?_
  refine gc_bipush dX3_init_13 (by decide) ?_
  refine gc_newa (N := 12) (k := b + 2) (t := 0) (W0 := V) (L := [(ad b, .inr (7, [.ref (ad (b + 1)), .null, .null])), (ad (b + 1), .inl (cy 0, 12, .inl (fun _ => iI 0)))]) (kc := 1) (ks := 12) (ty := .int) (a0 := (12, .inl (fun _ => iI 0))) dX3_init_15 rfl (tb_in 112 (by decide +kernel) (by decide +kernel)) (fun cA => cell_0) rfl rfl (by decide) (by decide) (had 1 (by decide)) ?_
  refine gc_putF (W0 := V) (L := [(ad b, .inr (7, [.ref (ad (b + 1)), .null, .null])), (ad (b + 1), .inl (cy 0, 12, .inl (fun _ => iI 0))), (ad (b + 2), .inl (cy 0, 12, .inl (fun _ => iI 0)))]) 0 dX3_init_17 ff_X3_15 rfl rfl rfl rfl (show (1 : Nat) < 3 by decide) ?_
  refine gc_aload_n dX3_init_20 rfl rfl ?_
  refine gc_bipush dX3_init_21 (by decide) ?_
  refine gc_newa (N := 12) (k := b + 3) (t := 0) (W0 := V) (L := [(ad b, .inr (7, [.ref (ad (b + 1)), .ref (ad (b + 2)), .null])), (ad (b + 1), .inl (cy 0, 12, .inl (fun _ => iI 0))), (ad (b + 2), .inl (cy 0, 12, .inl (fun _ => iI 0)))]) (kc := 0) (ks := 0) (ty := .int) (a0 := (12, .inl (fun _ => iI 0))) dX3_init_23 rfl (tb_in 112 (by decide +kernel) (by decide +kernel)) (fun cA => cell_0) rfl rfl (by decide) (by decide) (had 2 (by decide)) ?_
  refine gc_putF (W0 := V) (L := [(ad b, .inr (7, [.ref (ad (b + 1)), .ref (ad (b + 2)), .null])), (ad (b + 1), .inl (cy 0, 12, .inl (fun _ => iI 0))), (ad (b + 2), .inl (cy 0, 12, .inl (fun _ => iI 0))), (ad (b + 3), .inl (cy 0, 12, .inl (fun _ => iI 0)))]) 0 dX3_init_25 ff_X3_18 rfl rfl rfl rfl (show (2 : Nat) < 3 by decide) ?_
  exact gc_return dX3_init_28 rfl ⟨hf, rfl⟩
def clX4 (cy : Nat → ClassId) (ad : Nat → Nat) (b : Nat) : va_W := [(ad b, .inr (8, [.int (iI 0), .ref (ad (b + 1)), .ref (ad (b + 2)), .ref (ad (b + 3)), .ref (ad (b + 4)), .ref (ad (b + 5))])), (ad (b + 1), .inl (cy 0, 16, .inl (fun _ => iI 0))), (ad (b + 2), .inl (cy 0, 16, .inl (fun _ => iI 0))), (ad (b + 3), .inl (cy 0, 16, .inl (fun _ => iI 0))), (ad (b + 4), .inl (cy 0, 16, .inl (fun _ => iI 0))), (ad (b + 5), .inl (cy 0, 192, .inl (fun _ => iI 0)))]
theorem K_X4 {D : va_G} {cy : Nat → ClassId} {X0 : Nat → Prop} {ad : Nat → Nat} {V ws wf : va_W} {b h : Nat} (hw : ws = V ++ [(ad b, .inr (8, [.int (iI 0), .null, .null, .null, .null, .null]))]) (hf : V ++ clX4 cy ad b = wf) (had : ∀ i, i < 5 → ad (b + 1 + i) = h + i) :
    gc D cy X0 ad 1 5 256 mX4_init (gcQ D X0 (fun w h' => w = wf ∧ h' = h + 5)) noX 0 [.ref b] [] ws h := by
  subst hw
  refine gc_aload_n dX4_init_0 rfl rfl ?_
  refine gc_obj dX4_init_1 (tb_in 202 (by decide +kernel) (by decide +kernel)) (by decide) (by decide) ?_
  refine gc_aload_n dX4_init_4 rfl rfl ?_
  refine gc_bipush dX4_init_5 (by decide) ?_
  refine gc_newa (N := 16) (k := b + 1) (t := 0) (W0 := V) (L := [(ad b, .inr (8, [.int (iI 0), .null, .null, .null, .null, .null]))]) (kc := 4) (ks := 240) (ty := .int) (a0 := (16, .inl (fun _ => iI 0))) dX4_init_7 rfl (tb_in 112 (by decide +kernel) (by decide +kernel)) (fun cA => cell_0) rfl rfl (by decide) (by decide) (had 0 (by decide)) ?_
  refine gc_putF (W0 := V) (L := [(ad b, .inr (8, [.int (iI 0), .null, .null, .null, .null, .null])), (ad (b + 1), .inl (cy 0, 16, .inl (fun _ => iI 0)))]) 0 dX4_init_9 ff_X4_9 rfl rfl rfl rfl (show (1 : Nat) < 6 by decide) ?_
  refine gc_aload_n dX4_init_12 rfl rfl ?_
  refine gc_bipush dX4_init_13 (by decide) ?_
  refine gc_newa (N := 16) (k := b + 2) (t := 0) (W0 := V) (L := [(ad b, .inr (8, [.int (iI 0), .ref (ad (b + 1)), .null, .null, .null, .null])), (ad (b + 1), .inl (cy 0, 16, .inl (fun _ => iI 0)))]) (kc := 3) (ks := 224) (ty := .int) (a0 := (16, .inl (fun _ => iI 0))) dX4_init_15 rfl (tb_in 112 (by decide +kernel) (by decide +kernel)) (fun cA => cell_0) rfl rfl (by decide) (by decide) (had 1 (by decide)) ?_
  refine gc_putF (W0 := V) (L := [(ad b, .inr (8, [.int (iI 0), .ref (ad (b + 1)), .null, .null, .null, .null])), (ad (b + 1), .inl (cy 0, 16, .inl (fun _ => iI 0))), (ad (b + 2), .inl (cy 0, 16, .inl (fun _ => iI 0)))]) 0 dX4_init_17 ff_X4_15 rfl rfl rfl rfl (show (2 : Nat) < 6 by decide) ?_
  refine gc_aload_n dX4_init_20 rfl rfl ?_
  refine gc_bipush dX4_init_21 (by decide) ?_
  refine gc_newa (N := 16) (k := b + 3) (t := 0) (W0 := V) (L := [(ad b, .inr (8, [.int (iI 0), .ref (ad (b + 1)), .ref (ad (b + 2)), .null, .null, .null])), (ad (b + 1), .inl (cy 0, 16, .inl (fun _ => iI 0))), (ad (b + 2), .inl (cy 0, 16, .inl (fun _ => iI 0)))]) (kc := 2) (ks := 208) (ty := .int) (a0 := (16, .inl (fun _ => iI 0))) dX4_init_23 rfl (tb_in 112 (by decide +kernel) (by decide +kernel)) (fun cA => cell_0) rfl rfl (by decide) (by decide) (had 2 (by decide)) ?_
  refine gc_putF (W0 := V) (L := [(ad b, .inr (8, [.int (iI 0), .ref (ad (b + 1)), .ref (ad (b + 2)), .null, .null, .null])), (ad (b + 1), .inl (cy 0, 16, .inl (fun _ => iI 0))), (ad (b + 2), .inl (cy 0, 16, .inl (fun _ => iI 0))), (ad (b + 3), .inl (cy 0, 16, .inl (fun _ => iI 0)))]) 0 dX4_init_25 ff_X4_18 rfl rfl rfl rfl (show (3 : Nat) < 6 by decide) ?_
  refine gc_aload_n dX4_init_28 rfl rfl ?_
  refine gc_bipush dX4_init_29 (by decide) ?_
  refine gc_newa (N := 16) (k := b + 4) (t := 0) (W0 := V) (L := [(ad b, .inr (8, [.int (iI 0), .ref (ad (b + 1)), .ref (ad (b + 2)), .ref (ad (b + 3)), .null, .null])), (ad (b + 1), .inl (cy 0, 16, .inl (fun _ => iI 0))), (ad (b + 2), .inl (cy 0, 16, .inl (fun _ => iI 0))), (ad (b + 3), .inl (cy 0, 16, .inl (fun _ => iI 0)))]) (kc := 1) (ks := 192) (ty := .int) (a0 := (16, .inl (fun _ => iI 0))) dX4_init_31 rfl (tb_in 112 (by decide +kernel) (by decide +kernel)) (fun cA => cell_0) rfl rfl (by decide) (by decide) (had 3 (by decide)) ?_
  refine gc_putF (W0 := V) (L := [(ad b, .inr (8, [.int (iI 0), .ref (ad (b + 1)), .ref (ad (b + 2)), .ref (ad (b + 3)), .null, .null])), (ad (b + 1), .inl (cy 0, 16, .inl (fun _ => iI 0))), (ad (b + 2), .inl (cy 0, 16, .inl (fun _ => iI 0))), (ad (b + 3), .inl (cy 0, 16, .inl (fun _ => iI 0))), (ad (b + 4), .inl (cy 0, 16, .inl (fun _ => iI 0)))]) 0 dX4_init_33 ff_X4_21 rfl rfl rfl rfl (show (4 : Nat) < 6 by decide) ?_
  refine gc_aload_n dX4_init_36 rfl rfl ?_
  refine gc_sipush dX4_init_37 (by decide) ?_
  refine gc_newa (N := 192) (k := b + 5) (t := 0) (W0 := V) (L := [(ad b, .inr (8, [.int (iI 0), .ref (ad (b + 1)), .ref (ad (b + 2)), .ref (ad (b + 3)), .ref (ad (b + 4)), .null])), (ad (b + 1), .inl (cy 0, 16, .inl (fun _ => iI 0))), (ad (b + 2), .inl (cy 0, 16, .inl (fun _ => iI 0))), (ad (b + 3), .inl (cy 0, 16, .inl (fun _ => iI 0))), (ad (b + 4), .inl (cy 0, 16, .inl (fun _ => iI 0)))]) (kc := 0) (ks := 0) (ty := .int) (a0 := (192, .inl (fun _ => iI 0))) dX4_init_40 rfl (tb_in 112 (by decide +kernel) (by decide +kernel)) (fun cA => cell_0) rfl rfl (by decide) (by decide) (had 4 (by decide)) ?_
  refine gc_putF (W0 := V) (L := [(ad b, .inr (8, [.int (iI 0), .ref (ad (b + 1)), .ref (ad (b + 2)), .ref (ad (b + 3)), .ref (ad (b + 4)), .null])), (ad (b + 1), .inl (cy 0, 16, .inl (fun _ => iI 0))), (ad (b + 2), .inl (cy 0, 16, .inl (fun _ => iI 0))), (ad (b + 3), .inl (cy 0, 16, .inl (fun _ => iI 0))), (ad (b + 4), .inl (cy 0, 16, .inl (fun _ => iI 0))), (ad (b + 5), .inl (cy 0, 192, .inl (fun _ => iI 0)))]) 0 dX4_init_42 ff_X4_24 rfl rfl rfl rfl (show (5 : Nat) < 6 by decide) ?_
  exact gc_return dX4_init_45 rfl ⟨hf, rfl⟩
def clX5 (cy : Nat → ClassId) (ad : Nat → Nat) (b : Nat) : va_W := [(ad b, .inr (9, [.int (iI 0), .ref (ad (b + 1)), .ref (ad (b + 2)), .ref (ad (b + 3))])), (ad (b + 1), .inl (cy 0, 12, .inl (fun _ => iI 0))), (ad (b + 2), .inl (cy 0, 12, .inl (fun _ => iI 0))), (ad (b + 3), .inl (cy 0, 12, .inl (fun _ => iI 0)))]
theorem K_X5 {D : va_G} {cy : Nat → ClassId} {X0 : Nat → Prop} {ad : Nat → Nat} {V ws wf : va_W} {b h : Nat} (hw : ws = V ++ [(ad b, .inr (9, [.int (iI 0), .null, .null, .null]))]) (hf : V ++ clX5 cy ad b = wf) (had : ∀ i, i < 3 → ad (b + 1 + i) = h + i) :
    gc D cy X0 ad 1 3 36 mX5_init (gcQ D X0 (fun w h' => w = wf ∧ h' = h + 3)) noX 0 [.ref b] [] ws h := by
  subst hw
  refine gc_aload_n dX5_init_0 rfl rfl ?_
  refine gc_obj dX5_init_1 (tb_in 236 (by decide +kernel) (by decide +kernel)) (by decide) (by decide) ?_
  refine gc_aload_n dX5_init_4 rfl rfl ?_
  refine gc_bipush dX5_init_5 (by decide) ?_
  refine gc_newa (N := 12) (k := b + 1) (t := 0) (W0 := V) (L := [(ad b, .inr (9, [.int (iI 0), .null, .null, .null]))]) (kc := 2) (ks := 24) (ty := .int) (a0 := (12, .inl (fun _ => iI 0))) dX5_init_7 rfl (tb_in 112 (by decide +kernel) (by decide +kernel)) (fun cA => cell_0) rfl rfl (by decide) (by decide) (had 0 (by decide)) ?_
  refine gc_putF (W0 := V) (L := [(ad b, .inr (9, [.int (iI 0), .null, .null, .null])), (ad (b + 1), .inl (cy 0, 12, .inl (fun _ => iI 0)))]) 0 dX5_init_9 ff_X5_9 rfl rfl rfl rfl (show (1 : Nat) < 4 by decide) ?_
  refine gc_aload_n dX5_init_12 rfl rfl ?_
  refine gc_bipush dX5_init_13 (by decide) ?_
  refine gc_newa (N := 12) (k := b + 2) (t := 0) (W0 := V) (L := [(ad b, .inr (9, [.int (iI 0), .ref (ad (b + 1)), .null, .null])), (ad (b + 1), .inl (cy 0, 12, .inl (fun _ => iI 0)))]) (kc := 1) (ks := 12) (ty := .int) (a0 := (12, .inl (fun _ => iI 0))) dX5_init_15 rfl (tb_in 112 (by decide +kernel) (by decide +kernel)) (fun cA => cell_0) rfl rfl (by decide) (by decide) (had 1 (by decide)) ?_
  refine gc_putF (W0 := V) (L := [(ad b, .inr (9, [.int (iI 0), .ref (ad (b + 1)), .null, .null])), (ad (b + 1), .inl (cy 0, 12, .inl (fun _ => iI 0))), (ad (b + 2), .inl (cy 0, 12, .inl (fun _ => iI 0)))]) 0 dX5_init_17 ff_X5_15 rfl rfl rfl rfl (show (2 : Nat) < 4 by decide) ?_
  refine gc_aload_n dX5_init_20 rfl rfl ?_
  refine gc_bipush dX5_init_21 (by decide) ?_
  refine gc_newa (N := 12) (k := b + 3) (t := 0) (W0 := V) (L := [(ad b, .inr (9, [.int (iI 0), .ref (ad (b + 1)), .ref (ad (b + 2)), .null])), (ad (b + 1), .inl (cy 0, 12, .inl (fun _ => iI 0))), (ad (b + 2), .inl (cy 0, 12, .inl (fun _ => iI 0)))]) (kc := 0) (ks := 0) (ty := .int) (a0 := (12, .inl (fun _ => iI 0))) dX5_init_23 rfl (tb_in 112 (by decide +kernel) (by decide +kernel)) (fun cA => cell_0) rfl rfl (by decide) (by decide) (had 2 (by decide)) ?_
  refine gc_putF (W0 := V) (L := [(ad b, .inr (9, [.int (iI 0), .ref (ad (b + 1)), .ref (ad (b + 2)), .null])), (ad (b + 1), .inl (cy 0, 12, .inl (fun _ => iI 0))), (ad (b + 2), .inl (cy 0, 12, .inl (fun _ => iI 0))), (ad (b + 3), .inl (cy 0, 12, .inl (fun _ => iI 0)))]) 0 dX5_init_25 ff_X5_18 rfl rfl rfl rfl (show (3 : Nat) < 4 by decide) ?_
  exact gc_return dX5_init_28 rfl ⟨hf, rfl⟩
def clX6 (cy : Nat → ClassId) (ad : Nat → Nat) (b : Nat) : va_W := [(ad b, .inr (10, [.ref (ad (b + 1)), .ref (ad (b + 2)), .ref (ad (b + 3)), .ref (ad (b + 4)), .ref (ad (b + 5)), .int (iI 0), .int (iI 0), .int (iI 0)])), (ad (b + 1), .inl (cy 0, 30, .inl (fun _ => iI 0))), (ad (b + 2), .inl (cy 0, 30, .inl (fun _ => iI 0))), (ad (b + 3), .inl (cy 0, 30, .inl (fun _ => iI 0))), (ad (b + 4), .inl (cy 0, 30, .inl (fun _ => iI 0))), (ad (b + 5), .inl (cy 0, 30, .inl (fun _ => iI 0)))]
theorem K_X6 {D : va_G} {cy : Nat → ClassId} {X0 : Nat → Prop} {ad : Nat → Nat} {V ws wf : va_W} {b h : Nat} (hw : ws = V ++ [(ad b, .inr (10, [.null, .null, .null, .null, .null, .int (iI 0), .int (iI 0), .int (iI 0)]))]) (hf : V ++ clX6 cy ad b = wf) (had : ∀ i, i < 5 → ad (b + 1 + i) = h + i) :
    gc D cy X0 ad 1 5 150 mX6_init (gcQ D X0 (fun w h' => w = wf ∧ h' = h + 5)) noX 0 [.ref b] [] ws h := by
  subst hw
  refine gc_aload_n dX6_init_0 rfl rfl ?_
  refine gc_obj dX6_init_1 (tb_in 89 (by decide +kernel) (by decide +kernel)) (by decide) (by decide) ?_
  refine gc_aload_n dX6_init_4 rfl rfl ?_
  refine gc_bipush dX6_init_5 (by decide) ?_
  refine gc_newa (N := 30) (k := b + 1) (t := 0) (W0 := V) (L := [(ad b, .inr (10, [.null, .null, .null, .null, .null, .int (iI 0), .int (iI 0), .int (iI 0)]))]) (kc := 4) (ks := 120) (ty := .int) (a0 := (30, .inl (fun _ => iI 0))) dX6_init_7 rfl (tb_in 112 (by decide +kernel) (by decide +kernel)) (fun cA => cell_0) rfl rfl (by decide) (by decide) (had 0 (by decide)) ?_
  refine gc_putF (W0 := V) (L := [(ad b, .inr (10, [.null, .null, .null, .null, .null, .int (iI 0), .int (iI 0), .int (iI 0)])), (ad (b + 1), .inl (cy 0, 30, .inl (fun _ => iI 0)))]) 0 dX6_init_9 ff_X6_9 rfl rfl rfl rfl (show (0 : Nat) < 8 by decide) ?_
  refine gc_aload_n dX6_init_12 rfl rfl ?_
  refine gc_bipush dX6_init_13 (by decide) ?_
  refine gc_newa (N := 30) (k := b + 2) (t := 0) (W0 := V) (L := [(ad b, .inr (10, [.ref (ad (b + 1)), .null, .null, .null, .null, .int (iI 0), .int (iI 0), .int (iI 0)])), (ad (b + 1), .inl (cy 0, 30, .inl (fun _ => iI 0)))]) (kc := 3) (ks := 90) (ty := .int) (a0 := (30, .inl (fun _ => iI 0))) dX6_init_15 rfl (tb_in 112 (by decide +kernel) (by decide +kernel)) (fun cA => cell_0) rfl rfl (by decide) (by decide) (had 1 (by decide)) ?_
  refine gc_putF (W0 := V) (L := [(ad b, .inr (10, [.ref (ad (b + 1)), .null, .null, .null, .null, .int (iI 0), .int (iI 0), .int (iI 0)])), (ad (b + 1), .inl (cy 0, 30, .inl (fun _ => iI 0))), (ad (b + 2), .inl (cy 0, 30, .inl (fun _ => iI 0)))]) 0 dX6_init_17 ff_X6_15 rfl rfl rfl rfl (show (1 : Nat) < 8 by decide) ?_
  refine gc_aload_n dX6_init_20 rfl rfl ?_
  refine gc_bipush dX6_init_21 (by decide) ?_
  refine gc_newa (N := 30) (k := b + 3) (t := 0) (W0 := V) (L := [(ad b, .inr (10, [.ref (ad (b + 1)), .ref (ad (b + 2)), .null, .null, .null, .int (iI 0), .int (iI 0), .int (iI 0)])), (ad (b + 1), .inl (cy 0, 30, .inl (fun _ => iI 0))), (ad (b + 2), .inl (cy 0, 30, .inl (fun _ => iI 0)))]) (kc := 2) (ks := 60) (ty := .int) (a0 := (30, .inl (fun _ => iI 0))) dX6_init_23 rfl (tb_in 112 (by decide +kernel) (by decide +kernel)) (fun cA => cell_0) rfl rfl (by decide) (by decide) (had 2 (by decide)) ?_
  refine gc_putF (W0 := V) (L := [(ad b, .inr (10, [.ref (ad (b + 1)), .ref (ad (b + 2)), .null, .null, .null, .int (iI 0), .int (iI 0), .int (iI 0)])), (ad (b + 1), .inl (cy 0, 30, .inl (fun _ => iI 0))), (ad (b + 2), .inl (cy 0, 30, .inl (fun _ => iI 0))), (ad (b + 3), .inl (cy 0, 30, .inl (fun _ => iI 0)))]) 0 dX6_init_25 ff_X6_18 rfl rfl rfl rfl (show (2 : Nat) < 8 by decide) ?_
  refine gc_aload_n dX6_init_28 rfl rfl ?_
  refine gc_bipush dX6_init_29 (by decide) ?_
  refine gc_newa (N := 30) (k := b + 4) (t := 0) (W0 := V) (L := [(ad b, .inr (10, [.ref (ad (b + 1)), .ref (ad (b + 2)), .ref (ad (b + 3)), .null, .null, .int (iI 0), .int (iI 0), .int (iI 0)])), (ad (b + 1), .inl (cy 0, 30, .inl (fun _ => iI 0))), (ad (b + 2), .inl (cy 0, 30, .inl (fun _ => iI 0))), (ad (b + 3), .inl (cy 0, 30, .inl (fun _ => iI 0)))]) (kc := 1) (ks := 30) (ty := .int) (a0 := (30, .inl (fun _ => iI 0))) dX6_init_31 rfl (tb_in 112 (by decide +kernel) (by decide +kernel)) (fun cA => cell_0) rfl rfl (by decide) (by decide) (had 3 (by decide)) ?_
  refine gc_putF (W0 := V) (L := [(ad b, .inr (10, [.ref (ad (b + 1)), .ref (ad (b + 2)), .ref (ad (b + 3)), .null, .null, .int (iI 0), .int (iI 0), .int (iI 0)])), (ad (b + 1), .inl (cy 0, 30, .inl (fun _ => iI 0))), (ad (b + 2), .inl (cy 0, 30, .inl (fun _ => iI 0))), (ad (b + 3), .inl (cy 0, 30, .inl (fun _ => iI 0))), (ad (b + 4), .inl (cy 0, 30, .inl (fun _ => iI 0)))]) 0 dX6_init_33 ff_X6_21 rfl rfl rfl rfl (show (3 : Nat) < 8 by decide) ?_
  refine gc_aload_n dX6_init_36 rfl rfl ?_
  refine gc_bipush dX6_init_37 (by decide) ?_
  refine gc_newa (N := 30) (k := b + 5) (t := 0) (W0 := V) (L := [(ad b, .inr (10, [.ref (ad (b + 1)), .ref (ad (b + 2)), .ref (ad (b + 3)), .ref (ad (b + 4)), .null, .int (iI 0), .int (iI 0), .int (iI 0)])), (ad (b + 1), .inl (cy 0, 30, .inl (fun _ => iI 0))), (ad (b + 2), .inl (cy 0, 30, .inl (fun _ => iI 0))), (ad (b + 3), .inl (cy 0, 30, .inl (fun _ => iI 0))), (ad (b + 4), .inl (cy 0, 30, .inl (fun _ => iI 0)))]) (kc := 0) (ks := 0) (ty := .int) (a0 := (30, .inl (fun _ => iI 0))) dX6_init_39 rfl (tb_in 112 (by decide +kernel) (by decide +kernel)) (fun cA => cell_0) rfl rfl (by decide) (by decide) (had 4 (by decide)) ?_
  refine gc_putF (W0 := V) (L := [(ad b, .inr (10, [.ref (ad (b + 1)), .ref (ad (b + 2)), .ref (ad (b + 3)), .ref (ad (b + 4)), .null, .int (iI 0), .int (iI 0), .int (iI 0)])), (ad (b + 1), .inl (cy 0, 30, .inl (fun _ => iI 0))), (ad (b + 2), .inl (cy 0, 30, .inl (fun _ => iI 0))), (ad (b + 3), .inl (cy 0, 30, .inl (fun _ => iI 0))), (ad (b + 4), .inl (cy 0, 30, .inl (fun _ => iI 0))), (ad (b + 5), .inl (cy 0, 30, .inl (fun _ => iI 0)))]) 0 dX6_init_41 ff_X6_24 rfl rfl rfl rfl (show (4 : Nat) < 8 by decide) ?_
  exact gc_return dX6_init_44 rfl ⟨hf, rfl⟩
def clX7 (cy : Nat → ClassId) (ad : Nat → Nat) (b : Nat) : va_W := [(ad b, .inr (11, [.int (iI 0), .int (iI 0), .int (iI 0), .int (iI 0), .int (iI 0), .int (iI 0), .int (iI 0), .int (iI 0), .ref (ad (b + 1)), .ref (ad (b + 2)), .ref (ad (b + 3)), .ref (ad (b + 4))])), (ad (b + 1), .inl (cy 0, 12, .inl (fun _ => iI 0))), (ad (b + 2), .inl (cy 0, 12, .inl (fun _ => iI 0))), (ad (b + 3), .inl (cy 0, 12, .inl (fun _ => iI 0))), (ad (b + 4), .inl (cy 0, 12, .inl (fun _ => iI 0)))]
theorem K_X7 {D : va_G} {cy : Nat → ClassId} {X0 : Nat → Prop} {ad : Nat → Nat} {V ws wf : va_W} {b h : Nat} (hw : ws = V ++ [(ad b, .inr (11, [.int (iI 0), .int (iI 0), .int (iI 0), .int (iI 0), .int (iI 0), .int (iI 0), .int (iI 0), .int (iI 0), .null, .null, .null, .null]))]) (hf : V ++ clX7 cy ad b = wf) (had : ∀ i, i < 4 → ad (b + 1 + i) = h + i) :
    gc D cy X0 ad 1 4 48 mX7_init (gcQ D X0 (fun w h' => w = wf ∧ h' = h + 4)) noX 0 [.ref b] [] ws h := by
  subst hw
  refine gc_aload_n dX7_init_0 rfl rfl ?_
  refine gc_obj dX7_init_1 (tb_in 118 (by decide +kernel) (by decide +kernel)) (by decide) (by decide) ?_
  refine gc_aload_n dX7_init_4 rfl rfl ?_
  refine gc_bipush dX7_init_5 (by decide) ?_
  refine gc_newa (N := 12) (k := b + 1) (t := 0) (W0 := V) (L := [(ad b, .inr (11, [.int (iI 0), .int (iI 0), .int (iI 0), .int (iI 0), .int (iI 0), .int (iI 0), .int (iI 0), .int (iI 0), .null, .null, .null, .null]))]) (kc := 3) (ks := 36) (ty := .int) (a0 := (12, .inl (fun _ => iI 0))) dX7_init_7 rfl (tb_in 112 (by decide +kernel) (by decide +kernel)) (fun cA => cell_0) rfl rfl (by decide) (by decide) (had 0 (by decide)) ?_
  refine gc_putF (W0 := V) (L := [(ad b, .inr (11, [.int (iI 0), .int (iI 0), .int (iI 0), .int (iI 0), .int (iI 0), .int (iI 0), .int (iI 0), .int (iI 0), .null, .null, .null, .null])), (ad (b + 1), .inl (cy 0, 12, .inl (fun _ => iI 0)))]) 0 dX7_init_9 ff_X7_9 rfl rfl rfl rfl (show (8 : Nat) < 12 by decide) ?_
  refine gc_aload_n dX7_init_12 rfl rfl ?_
  refine gc_bipush dX7_init_13 (by decide) ?_
  refine gc_newa (N := 12) (k := b + 2) (t := 0) (W0 := V) (L := [(ad b, .inr (11, [.int (iI 0), .int (iI 0), .int (iI 0), .int (iI 0), .int (iI 0), .int (iI 0), .int (iI 0), .int (iI 0), .ref (ad (b + 1)), .null, .null, .null])), (ad (b + 1), .inl (cy 0, 12, .inl (fun _ => iI 0)))]) (kc := 2) (ks := 24) (ty := .int) (a0 := (12, .inl (fun _ => iI 0))) dX7_init_15 rfl (tb_in 112 (by decide +kernel) (by decide +kernel)) (fun cA => cell_0) rfl rfl (by decide) (by decide) (had 1 (by decide)) ?_
  refine gc_putF (W0 := V) (L := [(ad b, .inr (11, [.int (iI 0), .int (iI 0), .int (iI 0), .int (iI 0), .int (iI 0), .int (iI 0), .int (iI 0), .int (iI 0), .ref (ad (b + 1)), .null, .null, .null])), (ad (b + 1), .inl (cy 0, 12, .inl (fun _ => iI 0))), (ad (b + 2), .inl (cy 0, 12, .inl (fun _ => iI 0)))]) 0 dX7_init_17 ff_X7_15 rfl rfl rfl rfl (show (9 : Nat) < 12 by decide) ?_
  refine gc_aload_n dX7_init_20 rfl rfl ?_
  refine gc_bipush dX7_init_21 (by decide) ?_
  refine gc_newa (N := 12) (k := b + 3) (t := 0) (W0 := V) (L := [(ad b, .inr (11, [.int (iI 0), .int (iI 0), .int (iI 0), .int (iI 0), .int (iI 0), .int (iI 0), .int (iI 0), .int (iI 0), .ref (ad (b + 1)), .ref (ad (b + 2)), .null, .null])), (ad (b + 1), .inl (cy 0, 12, .inl (fun _ => iI 0))), (ad (b + 2), .inl (cy 0, 12, .inl (fun _ => iI 0)))]) (kc := 1) (ks := 12) (ty := .int) (a0 := (12, .inl (fun _ => iI 0))) dX7_init_23 rfl (tb_in 112 (by decide +kernel) (by decide +kernel)) (fun cA => cell_0) rfl rfl (by decide) (by decide) (had 2 (by decide)) ?_
  refine gc_putF (W0 := V) (L := [(ad b, .inr (11, [.int (iI 0), .int (iI 0), .int (iI 0), .int (iI 0), .int (iI 0), .int (iI 0), .int (iI 0), .int (iI 0), .ref (ad (b + 1)), .ref (ad (b + 2)), .null, .null])), (ad (b + 1), .inl (cy 0, 12, .inl (fun _ => iI 0))), (ad (b + 2), .inl (cy 0, 12, .inl (fun _ => iI 0))), (ad (b + 3), .inl (cy 0, 12, .inl (fun _ => iI 0)))]) 0 dX7_init_25 ff_X7_18 rfl rfl rfl rfl (show (10 : Nat) < 12 by decide) ?_
  refine gc_aload_n dX7_init_28 rfl rfl ?_
  refine gc_bipush dX7_init_29 (by decide) ?_
  refine gc_newa (N := 12) (k := b + 4) (t := 0) (W0 := V) (L := [(ad b, .inr (11, [.int (iI 0), .int (iI 0), .int (iI 0), .int (iI 0), .int (iI 0), .int (iI 0), .int (iI 0), .int (iI 0), .ref (ad (b + 1)), .ref (ad (b + 2)), .ref (ad (b + 3)), .null])), (ad (b + 1), .inl (cy 0, 12, .inl (fun _ => iI 0))), (ad (b + 2), .inl (cy 0, 12, .inl (fun _ => iI 0))), (ad (b + 3), .inl (cy 0, 12, .inl (fun _ => iI 0)))]) (kc := 0) (ks := 0) (ty := .int) (a0 := (12, .inl (fun _ => iI 0))) dX7_init_31 rfl (tb_in 112 (by decide +kernel) (by decide +kernel)) (fun cA => cell_0) rfl rfl (by decide) (by decide) (had 3 (by decide)) ?_
  refine gc_putF (W0 := V) (L := [(ad b, .inr (11, [.int (iI 0), .int (iI 0), .int (iI 0), .int (iI 0), .int (iI 0), .int (iI 0), .int (iI 0), .int (iI 0), .ref (ad (b + 1)), .ref (ad (b + 2)), .ref (ad (b + 3)), .null])), (ad (b + 1), .inl (cy 0, 12, .inl (fun _ => iI 0))), (ad (b + 2), .inl (cy 0, 12, .inl (fun _ => iI 0))), (ad (b + 3), .inl (cy 0, 12, .inl (fun _ => iI 0))), (ad (b + 4), .inl (cy 0, 12, .inl (fun _ => iI 0)))]) 0 dX7_init_33 ff_X7_21 rfl rfl rfl rfl (show (11 : Nat) < 12 by decide) ?_
  exact gc_return dX7_init_36 rfl ⟨hf, rfl⟩
def clX8 (cy : Nat → ClassId) (ad : Nat → Nat) (b : Nat) : va_W := [(ad b, .inr (12, [.ref (ad (b + 1)), .int (iI 0)])), (ad (b + 1), .inl (cy 2, 700, .inl (fun _ => iI 0)))]
theorem K_X8 {D : va_G} {cy : Nat → ClassId} {X0 : Nat → Prop} {ad : Nat → Nat} {V ws wf : va_W} {b h : Nat} (hw : ws = V ++ [(ad b, .inr (12, [.null, .int (iI 0)]))]) (hf : V ++ clX8 cy ad b = wf) (had : ∀ i, i < 1 → ad (b + 1 + i) = h + i) :
    gc D cy X0 ad 1 1 700 mX8_init (gcQ D X0 (fun w h' => w = wf ∧ h' = h + 1)) noX 0 [.ref b] [] ws h := by
  subst hw
  refine gc_aload_n dX8_init_0 rfl rfl ?_
  refine gc_obj dX8_init_1 (tb_in 46 (by decide +kernel) (by decide +kernel)) (by decide) (by decide) ?_
  refine gc_aload_n dX8_init_4 rfl rfl ?_
  refine gc_sipush dX8_init_5 (by decide) ?_
  refine gc_newa (N := 700) (k := b + 1) (t := 2) (W0 := V) (L := [(ad b, .inr (12, [.null, .int (iI 0)]))]) (kc := 0) (ks := 0) (ty := .byte) (a0 := (700, .inl (fun _ => iI 0))) dX8_init_8 rfl (tb_in 56 (by decide +kernel) (by decide +kernel)) (fun cA => cell_0) rfl rfl (by decide) (by decide) (had 0 (by decide)) ?_
  refine gc_putF (W0 := V) (L := [(ad b, .inr (12, [.null, .int (iI 0)])), (ad (b + 1), .inl (cy 2, 700, .inl (fun _ => iI 0)))]) 0 dX8_init_10 ff_X8_9 rfl rfl rfl rfl (show (0 : Nat) < 2 by decide) ?_
  exact gc_return dX8_init_13 rfl ⟨hf, rfl⟩
theorem K_X9 {D : va_G} {cy : Nat → ClassId} {X0 : Nat → Prop} {ad : Nat → Nat} {V ws wf : va_W} {b q h : Nat} (hw : ws = V ++ [(ad b, .inr (13, [.null, .int (iI 0), .int (iI 0), .int (iI 0), .int (iI 0), .int (iI 0)]))]) (hf : V ++ [(ad b, .inr (13, [.ref (ad q), .int (iI 0), .int (iI 0), .int (iI 0), .int (iI 0), .int (iI 0)]))] = wf) :
    gc D cy X0 ad 1 0 0 mX9_init (gcQ D X0 (fun w h' => w = wf ∧ h' = h)) noX 0 [.ref b, .ref q] [] ws h := by
  subst hw
  refine gc_aload_n dX9_init_0 rfl rfl ?_
  refine gc_obj dX9_init_1 (tb_in 62 (by decide +kernel) (by decide +kernel)) (by decide) (by decide) ?_
  refine gc_aload_n dX9_init_4 rfl rfl ?_
  refine gc_aload_n dX9_init_5 rfl rfl ?_
  refine gc_putF (W0 := V) (L := [(ad b, .inr (13, [.null, .int (iI 0), .int (iI 0), .int (iI 0), .int (iI 0), .int (iI 0)]))]) 0 dX9_init_6 ff_X9_9 rfl rfl rfl rfl (show (0 : Nat) < 6 by decide) ?_
  exact gc_return dX9_init_9 rfl ⟨hf, rfl⟩
