/-! THE LAW: its loop -/
section Loop
variable {L : Nat} {xs : Nat → Int32} {Q : Option Value → Mem → Prop} {X : String → Mem → Prop}
set_option maxRecDepth 8000 in
set_option maxHeartbeats 4000000 in
theorem law_case {kc ks : Nat} {μ : Mem} {i : Nat} {a : Int} (h : INV μ) (hi : i + 6 ≤ L) (hL : L ≤ 3072) (K : ∀ μ', INV μ' → go 291 20 kc ks (mLaw L xs) Q X 2940 (lLaw i) [] μ') : go 291 20 (kc + 3) (ks + 246) (mLaw L xs) Q X 44 (lLaw i) [.int (iI 63), .int (iI a)] μ := by
  obtain ⟨k, hk, ek⟩ := and63 a
  refine go_iand (y := mLaw L xs) (pc := 44) dL_law_44 (v := (k : Nat)) ek ?_
  rcases (by omega : k = 0 ∨ k = 1 ∨ k = 2 ∨ k = 3 ∨ k = 4 ∨ k = 5 ∨ k = 6 ∨ k = 7 ∨ k = 8 ∨ k = 9 ∨ k = 10 ∨ k = 11 ∨ k = 12 ∨ k = 13 ∨ k = 14 ∨ k = 15 ∨ k = 16 ∨ k = 17 ∨ k = 18 ∨ k = 19 ∨ k = 20 ∨ k = 21 ∨ k = 22 ∨ k = 23 ∨ k = 24 ∨ k = 25 ∨ k = 26 ∨ k = 27 ∨ k = 28 ∨ k = 29 ∨ k = 30 ∨ k = 31 ∨ k = 32 ∨ k = 33 ∨ k = 34 ∨ k = 35 ∨ k = 36 ∨ k = 37 ∨ k = 38 ∨ k = 39 ∨ k = 40 ∨ k = 41 ∨ k = 42 ∨ k = 43 ∨ k = 44 ∨ k = 45 ∨ k = 46 ∨ k = 47 ∨ k = 48 ∨ k = 49 ∨ k = 50 ∨ k = 51 ∨ k = 52 ∨ k = 53 ∨ k = 54 ∨ k = 55 ∨ k = 56 ∨ k = 57 ∨ k = 58 ∨ 59 ≤ k) with rfl | rfl | rfl | rfl | rfl | rfl | rfl | rfl | rfl | rfl | rfl | rfl | rfl | rfl | rfl | rfl | rfl | rfl | rfl | rfl | rfl | rfl | rfl | rfl | rfl | rfl | rfl | rfl | rfl | rfl | rfl | rfl | rfl | rfl | rfl | rfl | rfl | rfl | rfl | rfl | rfl | rfl | rfl | rfl | rfl | rfl | rfl | rfl | rfl | rfl | rfl | rfl | rfl | rfl | rfl | rfl | rfl | rfl | rfl | e
  · exact go_tbIn (y := mLaw L xs) (pc := 45) (off := 251) (tgt := 296) dL_law_45 (by decide) (by decide) (by decide) rfl (by decide) (L_0 h hi hL K)
  · exact go_tbIn (y := mLaw L xs) (pc := 45) (off := 355) (tgt := 400) dL_law_45 (by decide) (by decide) (by decide) rfl (by decide) (L_1 h hi hL K)
  · exact go_tbIn (y := mLaw L xs) (pc := 45) (off := 411) (tgt := 456) dL_law_45 (by decide) (by decide) (by decide) rfl (by decide) (L_2 h hi hL K)
  · exact go_tbIn (y := mLaw L xs) (pc := 45) (off := 424) (tgt := 469) dL_law_45 (by decide) (by decide) (by decide) rfl (by decide) (L_3 h hi hL K)
  · exact go_tbIn (y := mLaw L xs) (pc := 45) (off := 437) (tgt := 482) dL_law_45 (by decide) (by decide) (by decide) rfl (by decide) (L_4 h hi hL K)
  · exact go_tbIn (y := mLaw L xs) (pc := 45) (off := 450) (tgt := 495) dL_law_45 (by decide) (by decide) (by decide) rfl (by decide) (L_5 h hi hL K)
  · exact go_tbIn (y := mLaw L xs) (pc := 45) (off := 463) (tgt := 508) dL_law_45 (by decide) (by decide) (by decide) rfl (by decide) (L_6 h hi hL K)
  · exact go_tbIn (y := mLaw L xs) (pc := 45) (off := 476) (tgt := 521) dL_law_45 (by decide) (by decide) (by decide) rfl (by decide) (L_7 h hi hL K)
  · exact go_tbIn (y := mLaw L xs) (pc := 45) (off := 489) (tgt := 534) dL_law_45 (by decide) (by decide) (by decide) rfl (by decide) (L_8 h hi hL K)
  · exact go_tbIn (y := mLaw L xs) (pc := 45) (off := 545) (tgt := 590) dL_law_45 (by decide) (by decide) (by decide) rfl (by decide) (L_9 h hi hL K)
  · exact go_tbIn (y := mLaw L xs) (pc := 45) (off := 601) (tgt := 646) dL_law_45 (by decide) (by decide) (by decide) rfl (by decide) (L_10 h hi hL K)
  · exact go_tbIn (y := mLaw L xs) (pc := 45) (off := 657) (tgt := 702) dL_law_45 (by decide) (by decide) (by decide) rfl (by decide) (L_11 h hi hL K)
  · exact go_tbIn (y := mLaw L xs) (pc := 45) (off := 713) (tgt := 758) dL_law_45 (by decide) (by decide) (by decide) rfl (by decide) (L_12 h hi hL K)
  · exact go_tbIn (y := mLaw L xs) (pc := 45) (off := 781) (tgt := 826) dL_law_45 (by decide) (by decide) (by decide) rfl (by decide) (L_13 h hi hL K)
  · exact go_tbIn (y := mLaw L xs) (pc := 45) (off := 837) (tgt := 882) dL_law_45 (by decide) (by decide) (by decide) rfl (by decide) (L_14 h hi hL K)
  · exact go_tbIn (y := mLaw L xs) (pc := 45) (off := 893) (tgt := 938) dL_law_45 (by decide) (by decide) (by decide) rfl (by decide) (L_15 h hi hL K)
  · exact go_tbIn (y := mLaw L xs) (pc := 45) (off := 906) (tgt := 951) dL_law_45 (by decide) (by decide) (by decide) rfl (by decide) (L_16 h hi hL K)
  · exact go_tbIn (y := mLaw L xs) (pc := 45) (off := 962) (tgt := 1007) dL_law_45 (by decide) (by decide) (by decide) rfl (by decide) (L_17 h hi hL K)
  · exact go_tbIn (y := mLaw L xs) (pc := 45) (off := 1018) (tgt := 1063) dL_law_45 (by decide) (by decide) (by decide) rfl (by decide) (L_18 h hi hL K)
  · exact go_tbIn (y := mLaw L xs) (pc := 45) (off := 1074) (tgt := 1119) dL_law_45 (by decide) (by decide) (by decide) rfl (by decide) (L_19 h hi hL K)
  · exact go_tbIn (y := mLaw L xs) (pc := 45) (off := 1130) (tgt := 1175) dL_law_45 (by decide) (by decide) (by decide) rfl (by decide) (L_20 h hi hL K)
  · exact go_tbIn (y := mLaw L xs) (pc := 45) (off := 1186) (tgt := 1231) dL_law_45 (by decide) (by decide) (by decide) rfl (by decide) (L_21 h hi hL K)
  · exact go_tbIn (y := mLaw L xs) (pc := 45) (off := 1242) (tgt := 1287) dL_law_45 (by decide) (by decide) (by decide) rfl (by decide) (L_22 h hi hL K)
  · exact go_tbIn (y := mLaw L xs) (pc := 45) (off := 1298) (tgt := 1343) dL_law_45 (by decide) (by decide) (by decide) rfl (by decide) (L_23 h hi hL K)
  · exact go_tbIn (y := mLaw L xs) (pc := 45) (off := 1361) (tgt := 1406) dL_law_45 (by decide) (by decide) (by decide) rfl (by decide) (L_24 h hi hL K)
  · exact go_tbIn (y := mLaw L xs) (pc := 45) (off := 1417) (tgt := 1462) dL_law_45 (by decide) (by decide) (by decide) rfl (by decide) (L_25 h hi hL K)
  · exact go_tbIn (y := mLaw L xs) (pc := 45) (off := 1430) (tgt := 1475) dL_law_45 (by decide) (by decide) (by decide) rfl (by decide) (L_26 h hi hL K)
  · exact go_tbIn (y := mLaw L xs) (pc := 45) (off := 1443) (tgt := 1488) dL_law_45 (by decide) (by decide) (by decide) rfl (by decide) (L_27 h hi hL K)
  · exact go_tbIn (y := mLaw L xs) (pc := 45) (off := 1456) (tgt := 1501) dL_law_45 (by decide) (by decide) (by decide) rfl (by decide) (L_28 h hi hL K)
  · exact go_tbIn (y := mLaw L xs) (pc := 45) (off := 1469) (tgt := 1514) dL_law_45 (by decide) (by decide) (by decide) rfl (by decide) (L_29 h hi hL K)
  · exact go_tbIn (y := mLaw L xs) (pc := 45) (off := 1482) (tgt := 1527) dL_law_45 (by decide) (by decide) (by decide) rfl (by decide) (L_30 h hi hL K)
  · exact go_tbIn (y := mLaw L xs) (pc := 45) (off := 1538) (tgt := 1583) dL_law_45 (by decide) (by decide) (by decide) rfl (by decide) (L_31 h hi hL K)
  · exact go_tbIn (y := mLaw L xs) (pc := 45) (off := 1594) (tgt := 1639) dL_law_45 (by decide) (by decide) (by decide) rfl (by decide) (L_32 h hi hL K)
  · exact go_tbIn (y := mLaw L xs) (pc := 45) (off := 1650) (tgt := 1695) dL_law_45 (by decide) (by decide) (by decide) rfl (by decide) (L_33 h hi hL K)
  · exact go_tbIn (y := mLaw L xs) (pc := 45) (off := 1713) (tgt := 1758) dL_law_45 (by decide) (by decide) (by decide) rfl (by decide) (L_34 h hi hL K)
  · exact go_tbIn (y := mLaw L xs) (pc := 45) (off := 1769) (tgt := 1814) dL_law_45 (by decide) (by decide) (by decide) rfl (by decide) (L_35 h hi hL K)
  · exact go_tbIn (y := mLaw L xs) (pc := 45) (off := 1782) (tgt := 1827) dL_law_45 (by decide) (by decide) (by decide) rfl (by decide) (L_36 h hi hL K)
  · exact go_tbIn (y := mLaw L xs) (pc := 45) (off := 1795) (tgt := 1840) dL_law_45 (by decide) (by decide) (by decide) rfl (by decide) (L_37 h hi hL K)
  · exact go_tbIn (y := mLaw L xs) (pc := 45) (off := 1808) (tgt := 1853) dL_law_45 (by decide) (by decide) (by decide) rfl (by decide) (L_38 h hi hL K)
  · exact go_tbIn (y := mLaw L xs) (pc := 45) (off := 1885) (tgt := 1930) dL_law_45 (by decide) (by decide) (by decide) rfl (by decide) (L_39 h hi hL K)
  · exact go_tbIn (y := mLaw L xs) (pc := 45) (off := 1963) (tgt := 2008) dL_law_45 (by decide) (by decide) (by decide) rfl (by decide) (L_40 h hi hL K)
  · exact go_tbIn (y := mLaw L xs) (pc := 45) (off := 1976) (tgt := 2021) dL_law_45 (by decide) (by decide) (by decide) rfl (by decide) (L_41 h hi hL K)
  · exact go_tbIn (y := mLaw L xs) (pc := 45) (off := 2032) (tgt := 2077) dL_law_45 (by decide) (by decide) (by decide) rfl (by decide) (L_42 h hi hL K)
  · exact go_tbIn (y := mLaw L xs) (pc := 45) (off := 2100) (tgt := 2145) dL_law_45 (by decide) (by decide) (by decide) rfl (by decide) (L_43 h hi hL K)
  · exact go_tbIn (y := mLaw L xs) (pc := 45) (off := 2156) (tgt := 2201) dL_law_45 (by decide) (by decide) (by decide) rfl (by decide) (L_44 h hi hL K)
  · exact go_tbIn (y := mLaw L xs) (pc := 45) (off := 2224) (tgt := 2269) dL_law_45 (by decide) (by decide) (by decide) rfl (by decide) (L_45 h hi hL K)
  · exact go_tbIn (y := mLaw L xs) (pc := 45) (off := 2320) (tgt := 2365) dL_law_45 (by decide) (by decide) (by decide) rfl (by decide) (L_46 h hi hL K)
  · exact go_tbIn (y := mLaw L xs) (pc := 45) (off := 2388) (tgt := 2433) dL_law_45 (by decide) (by decide) (by decide) rfl (by decide) (L_47 h hi hL K)
  · exact go_tbIn (y := mLaw L xs) (pc := 45) (off := 2444) (tgt := 2489) dL_law_45 (by decide) (by decide) (by decide) rfl (by decide) (L_48 h hi hL K)
  · exact go_tbIn (y := mLaw L xs) (pc := 45) (off := 2507) (tgt := 2552) dL_law_45 (by decide) (by decide) (by decide) rfl (by decide) (L_49 h hi hL K)
  · exact go_tbIn (y := mLaw L xs) (pc := 45) (off := 2563) (tgt := 2608) dL_law_45 (by decide) (by decide) (by decide) rfl (by decide) (L_50 h hi hL K)
  · exact go_tbIn (y := mLaw L xs) (pc := 45) (off := 2619) (tgt := 2664) dL_law_45 (by decide) (by decide) (by decide) rfl (by decide) (L_51 h hi hL K)
  · exact go_tbIn (y := mLaw L xs) (pc := 45) (off := 2675) (tgt := 2720) dL_law_45 (by decide) (by decide) (by decide) rfl (by decide) (L_52 h hi hL K)
  · exact go_tbIn (y := mLaw L xs) (pc := 45) (off := 2688) (tgt := 2733) dL_law_45 (by decide) (by decide) (by decide) rfl (by decide) (L_53 h hi hL K)
  · exact go_tbIn (y := mLaw L xs) (pc := 45) (off := 2701) (tgt := 2746) dL_law_45 (by decide) (by decide) (by decide) rfl (by decide) (L_54 h hi hL K)
  · exact go_tbIn (y := mLaw L xs) (pc := 45) (off := 2726) (tgt := 2771) dL_law_45 (by decide) (by decide) (by decide) rfl (by decide) (L_55 h hi hL K)
  · exact go_tbIn (y := mLaw L xs) (pc := 45) (off := 2739) (tgt := 2784) dL_law_45 (by decide) (by decide) (by decide) rfl (by decide) (L_56 h hi hL K)
  · exact go_tbIn (y := mLaw L xs) (pc := 45) (off := 2783) (tgt := 2828) dL_law_45 (by decide) (by decide) (by decide) rfl (by decide) (L_57 h hi hL K)
  · exact go_tbIn (y := mLaw L xs) (pc := 45) (off := 2839) (tgt := 2884) dL_law_45 (by decide) (by decide) (by decide) rfl (by decide) (L_58 h hi hL K)
  · exact go_tbOut (y := mLaw L xs) (pc := 45) (tgt := 2940) dL_law_45 (by omega) (by omega) (by decide) (go_widen (Nat.le_add_right _ _) (Nat.le_add_right _ _) (K μ h))
set_option maxRecDepth 8000 in
set_option maxHeartbeats 4000000 in
theorem law_loop (hL : L ≤ 3072) (hQ : ∀ μ, Q (some (.int (iI 1))) μ) : ∀ (n : Nat) (i : Nat) (μ : Mem), INV μ → i ≤ L + 5 → L + 5 ≤ i + 6 * n + 5 → go 291 20 (3 * n) (246 * n) (mLaw L xs) Q X 28 (lLaw i) [] μ := by
  intro n
  induction n with
  | zero =>
    intro i μ h h1 h2
    refine go_iload (y := mLaw L xs) (pc := 28) dL_law_28 rfl ?_
    refine go_aload_n (y := mLaw L xs) (pc := 30) dL_law_30 rfl rfl ?_
    refine go_slen (pc := 31) dL_law_31 hL ?_
    refine go_bipush (y := mLaw L xs) (pc := 32) dL_law_32 (by decide) ?_
    refine go_isub (y := mLaw L xs) (pc := 34) dL_law_34 ?_
    refine go_icmp_gt (y := mLaw L xs) (pc := 35) (tgt := 2946) dL_law_35 (by decide) (by omega) (by omega) (fun g => ?_) (fun g => ?_)
    · refine go_iconst (y := mLaw L xs) (pc := 2946) dL_law_2946 ?_
      exact go_zreturn (y := mLaw L xs) (pc := 2947) dL_law_2947 rfl (Or.inr rfl) (hQ μ)
    · omega
  | succ n ih =>
    intro i μ h h1 h2
    refine go_iload (y := mLaw L xs) (pc := 28) dL_law_28 rfl ?_
    refine go_aload_n (y := mLaw L xs) (pc := 30) dL_law_30 rfl rfl ?_
    refine go_slen (pc := 31) dL_law_31 hL ?_
    refine go_bipush (y := mLaw L xs) (pc := 32) dL_law_32 (by decide) ?_
    refine go_isub (y := mLaw L xs) (pc := 34) dL_law_34 ?_
    refine go_icmp_gt (y := mLaw L xs) (pc := 35) (tgt := 2946) dL_law_35 (by decide) (by omega) (by omega) (fun g => ?_) (fun g => ?_)
    · refine go_iconst (y := mLaw L xs) (pc := 2946) dL_law_2946 ?_
      exact go_zreturn (y := mLaw L xs) (pc := 2947) dL_law_2947 rfl (Or.inr rfl) (hQ μ)
    · refine go_aload_n (y := mLaw L xs) (pc := 38) dL_law_38 rfl rfl ?_
      refine go_iload (y := mLaw L xs) (pc := 39) dL_law_39 rfl ?_
      refine go_sld (pc := 41) (k := i) dL_law_41 rfl (by omega) hL ?_
      refine go_bipush (y := mLaw L xs) (pc := 42) dL_law_42 (by decide) ?_
      refine law_case (kc := 3 * n) (ks := 246 * n) h (by omega) hL (fun μ' h' => ?_)
      refine go_iinc (y := mLaw L xs) (pc := 2940) dL_law_2940 rfl (by show 5 < 9; decide) ?_
      refine go_goto (y := mLaw L xs) (pc := 2943) (tgt := 28) dL_law_2943 (by decide) ?_
      exact ih (i + 6) μ' h' (by omega) (by omega)
end Loop
