/-! A TEXT IN A MEMORY: f of L bytes; the reader's contracts said of it -/
abbrev Sta : Type := Nat × Int × Int
def okT (f : Int → Int) (L : Nat) (μ : Mem) : Prop := tx μ = f ∧ μ 1 1 = (L : Int) ∧ wfT μ
theorem okT_wr {f : Int → Int} {L a i : Nat} {v : Int} {μ : Mem} (h : okT f L μ) (h1 : a ≠ 1) (h2 : a ≠ 2) : okT f L (wr μ a i v) := by
  obtain ⟨e, hL, t0, t7, tb⟩ := h
  refine ⟨?_, by rw [wr_na (Ne.symm h1)]; exact hL, by rw [wr_na (Ne.symm h1)]; exact t0, by rw [wr_na (Ne.symm h1)]; exact t7, fun k hk => by rw [wr_na (Ne.symm h2)]; exact tb k hk⟩
  rw [← e]
  funext j
  unfold tx
  rw [wr_na (Ne.symm h1), wr_na (Ne.symm h2)]
theorem okT_L {f : Int → Int} {L : Nat} {μ : Mem} (h : okT f L μ) : f (L : Nat) = 0 ∧ L ≤ 700 := by
  obtain ⟨e, hL, t0, t7, tb⟩ := h
  exact ⟨by rw [← e]; exact tx_L hL, by omega⟩
section FT
variable {f : Int → Int} {ρ : Nat → Int} {μ : Mem} {L : Nat} {s : Sta} {q : String × Nat × String} {Q : Option Value → Mem → Prop} {X : String → Mem → Prop}
theorem f_start (ht : okT f L μ) (K : ∀ ρ', rok f L (tkB f L 0, 0, -1) ρ' → Q none (pr ρ' μ)) : mt 276 2 0 0 mX9_start [.ref 3] Q X (pr ρ μ) := by
  obtain ⟨rfl, hL, hT⟩ := ht
  exact t_start hL hT K
theorem f_isFine (ht : okT f L μ) (hr : rok f L s ρ) (K : ∀ v, v = bI (s.2.1 = 0) → v = 0 ∨ v = 1 → Q (some (.int (iI v))) (pr ρ μ)) : mt 276 0 0 0 mX9_isFine [.ref 3] Q X (pr ρ μ) := by
  obtain ⟨rfl, hL, hT⟩ := ht
  exact t_isFine hr K
theorem f_isAtEnd (ht : okT f L μ) (hr : rok f L s ρ) (K : ∀ v, v = bI (tkK f s.1 = 0) → v = 0 ∨ v = 1 → Q (some (.int (iI v))) (pr ρ μ)) : mt 276 0 0 0 mX9_isAtEnd [.ref 3] Q X (pr ρ μ) := by
  obtain ⟨rfl, hL, hT⟩ := ht
  exact t_isAtEnd hr K
theorem f_isAtSign {c : Int} (hc : rng c) (ht : okT f L μ) (hr : rok f L s ρ) (K : ∀ v, v = bI (tkK f s.1 = 3 ∧ f (s.1 : Nat) = c) → v = 0 ∨ v = 1 → Q (some (.int (iI v))) (pr ρ μ)) : mt 276 1 0 0 mX9_isAtSign [.ref 3, .int (iI c)] Q X (pr ρ μ) := by
  obtain ⟨rfl, hL, hT⟩ := ht
  exact t_isAtSign hc hL hT hr K
theorem f_isWord {k : Nat} (hi : sc_l[k]? = some q) (ht : okT f L μ) (hr : rok f L s ρ) (K : ∀ v, v = bI (atw f L s.1 q.2.2) → v = 0 ∨ v = 1 → Q (some (.int (iI v))) (pr ρ μ)) : mt 276 4 0 0 mX9_isAtWord_ [.ref 3, .ref (7000 + k)] Q X (pr ρ μ) := by
  obtain ⟨rfl, hL, hT⟩ := ht
  exact t_isWord hi hL hT hr K
theorem f_take {err : Int} (he : rng err) (ht : okT f L μ) (hr : rok f L s ρ) (K : ∀ ρ', rok f L (gon f L (mus s (err = 0) err)) ρ' → Q none (pr ρ' μ)) : mt 276 2 0 0 mX9_take [.ref 3, .int (iI err)] Q X (pr ρ μ) := by
  obtain ⟨rfl, hL, hT⟩ := ht
  exact t_take he hL hT hr K
theorem f_takeWord {k : Nat} (hi : sc_l[k]? = some q) (ht : okT f L μ) (hr : rok f L s ρ) (K : ∀ ρ', rok f L (gon f L (mus s (atw f L s.1 q.2.2) 1)) ρ' → Q none (pr ρ' μ)) : mt 276 5 0 0 mX9_takeWord [.ref 3, .ref (7000 + k)] Q X (pr ρ μ) := by
  obtain ⟨rfl, hL, hT⟩ := ht
  exact t_takeWord hi hL hT hr K
theorem f_takeSign {c : Int} (hc : rng c) (ht : okT f L μ) (hr : rok f L s ρ) (K : ∀ ρ', rok f L (gon f L (mus s (tkK f s.1 = 3 ∧ f (s.1 : Nat) = c) 1)) ρ' → Q none (pr ρ' μ)) : mt 276 3 0 0 mX9_takeSign [.ref 3, .int (iI c)] Q X (pr ρ μ) := by
  obtain ⟨rfl, hL, hT⟩ := ht
  exact t_takeSign hc hL hT hr K
/-- what takeNumber answers -/
def tkn3 (f : Int → Int) (L : Nat) (s : Sta) (a m : Int) : Int := if (num3 f L s a m).2.1 = 0 then nmv f L s.1 else a
theorem f_takeNumber {a m : Int} (ha : 0 ≤ a ∧ a ≤ m) (hm : m ≤ 1000) (ht : okT f L μ) (hr : rok f L s ρ) (K : ∀ ρ', rok f L (num3 f L s a m) ρ' → a ≤ tkn3 f L s a m ∧ tkn3 f L s a m ≤ m → Q (some (.int (iI (tkn3 f L s a m)))) (pr ρ' μ)) : mt 276 3 0 0 mX9_takeNumber [.ref 3, .int (iI a), .int (iI m)] Q X (pr ρ μ) := by
  obtain ⟨rfl, hL, hT⟩ := ht
  refine t_takeNumber ⟨by omega, by omega⟩ ⟨by omega, by omega⟩ hL hT hr (fun ρ' v h1 h2 h3 => ?_)
  have e : v = tkn3 (tx μ) L s a m := by
    unfold tkn3
    by_cases g : (num3 (tx μ) L s a m).2.1 = 0
    · rw [if_pos g]; exact (h2 g).1
    · rw [if_neg g]; exact h3 g
  have b : a ≤ v ∧ v ≤ m := by
    by_cases g : (num3 (tx μ) L s a m).2.1 = 0
    · exact (h2 g).2
    · have := h3 g; omega
  rw [e] at b ⊢
  exact K ρ' h1 b
theorem f_takeNewName (ht : okT f L μ) (hr : rok f L s ρ) (hn : 0 ≤ μ 15 7) (hn12 : μ 15 7 ≤ 12) (K : ∀ ρ' v, v = nbt f s.1 (tkE f L s.1) → 0 ≤ v ∧ v < 1073741824 → rok f L (gon f L (mus (nms f L s) (fnd (fun m => μ 16 m = v) (μ 15 7).toNat = -1) 3)) ρ' → Q (some (.int (iI v))) (pr ρ' μ)) : mt 276 3 0 0 mX7_takeNewName [.ref 15, .ref 3] Q X (pr ρ μ) := by
  obtain ⟨rfl, hL, hT⟩ := ht
  exact t_takeNewName hL hT hr hn hn12 K
end FT
/-! states behind an error -/
theorem gon_0 {f : Int → Int} {L : Nat} {s : Sta} (h : (gon f L s).2.1 = 0) : s.2.1 = 0 := by
  by_cases g : s.2.1 = 0
  · exact g
  · rw [gon_c g] at h; exact h
theorem mus_0 {s : Sta} {p : Prop} [Decidable p] {i : Int} (hi : i ≠ 0) (h : (mus s p i).2.1 = 0) : s.2.1 = 0 ∧ p := by
  by_cases g : s.2.1 = 0
  · by_cases hp : p
    · exact ⟨g, hp⟩
    · rw [mus_f g hp] at h
      exact absurd h hi
  · rw [mus_c g] at h
    exact absurd h g
theorem gm_0 {f : Int → Int} {L : Nat} {s : Sta} {p : Prop} [Decidable p] {i : Int} (hi : i ≠ 0) (h : (gon f L (mus s p i)).2.1 = 0) : s.2.1 = 0 ∧ p := mus_0 hi (gon_0 h)
theorem mus_ff {s : Sta} {p r : Prop} [Decidable p] [Decidable r] {i j : Int} (hi : i ≠ 0) (h : ¬ p) : mus (mus s p i) r j = mus s p i := by
  refine mus_c (fun w => ?_)
  exact h (mus_0 hi w).2
theorem mus_b {s : Sta} {p : Prop} [Decidable p] {i : Int} : (mus s p i).1 = s.1 := mus_1
theorem nxt_b {f : Int → Int} {L b : Nat} (hb : b ≤ L) (h0 : f (L : Nat) = 0) : b ≤ nxt f L b ∧ nxt f L b ≤ L := by
  have h1 := tkE_b hb h0
  have h2 := tkB_b (f := f) (L := L) (e := tkE f L b) h1.2
  unfold nxt
  omega
/-! the head of a setup -/
def sgn (f : Int → Int) (s : Sta) (c : Int) : Sta := mus s (tkK f s.1 = 3 ∧ f (s.1 : Nat) = c) 1
def hq0 (f : Int → Int) (L : Nat) (s : Sta) : Sta := gon f L (mus s (atw f L s.1 "house") 1)
def hq1 (f : Int → Int) (L : Nat) (s : Sta) : Sta := num3 f L (hq0 f L s) 1 4
def hq2 (f : Int → Int) (L : Nat) (s : Sta) : Sta := num3 f L (hq1 f L s) 0 5
def hq3 (f : Int → Int) (L : Nat) (s : Sta) : Sta := num3 f L (hq2 f L s) 1 20
def hq4 (f : Int → Int) (L : Nat) (s : Sta) : Sta := num3 f L (hq3 f L s) 0 20
def hq5 (f : Int → Int) (L : Nat) (s : Sta) : Sta := num3 f L (hq4 f L s) 2 30
def hq6 (f : Int → Int) (L : Nat) (s : Sta) : Sta := num3 f L (hq5 f L s) 0 9
def hq7 (f : Int → Int) (L : Nat) (s : Sta) : Sta := num3 f L (hq6 f L s) 0 12
def hq8 (f : Int → Int) (L : Nat) (s : Sta) : Sta := gon f L (sgn f (hq7 f L s) 59)
def hdm (f : Int → Int) (L : Nat) (s : Sta) (μ : Mem) : Sta × Mem := (hq8 f L s, wr (wr (wr (wr (wr (wr (wr (wr μ 15 0 (tkn3 f L (hq0 f L s) 1 4)) 15 1 (tkn3 f L (hq1 f L s) 0 5)) 15 2 (tkn3 f L (hq2 f L s) 1 20)) 15 3 (tkn3 f L (hq3 f L s) 0 20)) 15 4 (tkn3 f L (hq4 f L s) 2 30)) 15 5 (tkn3 f L (hq5 f L s) 0 9)) 15 6 (tkn3 f L (hq6 f L s) 0 12)) 15 7 0)
/-! a member -/
def mq1 (f : Int → Int) (L : Nat) (s : Sta) (μ : Mem) : Sta := gon f L (mus (mus s (atw f L s.1 "member") 1) (μ 15 7 < 12) 4)
def mqn (f : Int → Int) (L : Nat) (s : Sta) (μ : Mem) : Int := nbt f (mq1 f L s μ).1 (tkE f L (mq1 f L s μ).1)
def mq2 (f : Int → Int) (L : Nat) (s : Sta) (μ : Mem) : Sta := gon f L (mus (nms f L (mq1 f L s μ)) (fnd (fun m => μ 16 m = mqn f L s μ) (μ 15 7).toNat = -1) 3)
def mq3 (f : Int → Int) (L : Nat) (s : Sta) (μ : Mem) : Sta := num3 f L (mq2 f L s μ) 1 9
def mq4 (f : Int → Int) (L : Nat) (s : Sta) (μ : Mem) : Sta := num3 f L (mq3 f L s μ) 0 20
def mq5 (f : Int → Int) (L : Nat) (s : Sta) (μ : Mem) : Sta := num3 f L (mq4 f L s μ) 0 99
def mq6 (f : Int → Int) (L : Nat) (s : Sta) (μ : Mem) : Sta := gon f L (sgn f (mq5 f L s μ) 59)
def mwr (f : Int → Int) (L : Nat) (s : Sta) (μ : Mem) : Mem := wr (wr (wr (wr (wr μ 16 (μ 15 7).toNat (mqn f L s μ)) 17 (μ 15 7).toNat (nmv f L (mq2 f L s μ).1)) 18 (μ 15 7).toNat (nmv f L (mq3 f L s μ).1)) 19 (μ 15 7).toNat (nmv f L (mq4 f L s μ).1)) 15 7 (μ 15 7 + 1)
def mst (f : Int → Int) (L : Nat) (x : Sta × Mem) : Sta × Mem := (mq6 f L x.1 x.2, if (mq6 f L x.1 x.2).2.1 = 0 then mwr f L x.1 x.2 else x.2)
theorem mq_0 {f : Int → Int} {L : Nat} {s : Sta} {μ : Mem} (h : (mq6 f L s μ).2.1 = 0) : (mq5 f L s μ).2.1 = 0 ∧ (mq4 f L s μ).2.1 = 0 ∧ (mq3 f L s μ).2.1 = 0 ∧ (mq2 f L s μ).2.1 = 0 ∧ (mq1 f L s μ).2.1 = 0 ∧ s.2.1 = 0 ∧ μ 15 7 < 12 := by
  have h5 := (gm_0 (show (1 : Int) ≠ 0 by decide) h).1
  have h4 := (num3_0 h5).1
  have h3 := (num3_0 h4).1
  have h2 := (num3_0 h3).1
  have h9 := (gm_0 (show (3 : Int) ≠ 0 by decide) h2).1
  have h1 := (nms_0 h9).1
  have h8 := gm_0 (show (4 : Int) ≠ 0 by decide) h1
  exact ⟨h5, h4, h3, h2, h1, (mus_0 (show (1 : Int) ≠ 0 by decide) h8.1).1, h8.2⟩
theorem tkn3_0 {f : Int → Int} {L : Nat} {s : Sta} {a m : Int} (h : (num3 f L s a m).2.1 = 0) : tkn3 f L s a m = nmv f L s.1 := if_pos h
def rdl (f : Int → Int) (L : Nat) : Nat → Sta × Mem → Sta × Mem
  | 0, x => x
  | n + 1, x => if x.1.2.1 = 0 ∧ tkK f x.1.1 ≠ 0 then rdl f L n (mst f L x) else x
def rdS (f : Int → Int) (L : Nat) (s : Sta) (μ : Mem) : Sta × Mem := rdl f L 12 (mst f L (hdm f L s μ))
theorem mst_7 {f : Int → Int} {L : Nat} {x : Sta × Mem} (h : 0 ≤ x.2 15 7 ∧ x.2 15 7 ≤ 12) : 0 ≤ (mst f L x).2 15 7 ∧ (mst f L x).2 15 7 ≤ 12 := by
  unfold mst
  show 0 ≤ (if (mq6 f L x.1 x.2).2.1 = 0 then mwr f L x.1 x.2 else x.2) 15 7 ∧ (if (mq6 f L x.1 x.2).2.1 = 0 then mwr f L x.1 x.2 else x.2) 15 7 ≤ 12
  by_cases g : (mq6 f L x.1 x.2).2.1 = 0
  · rw [if_pos g]
    have g9 := (mq_0 g).2.2.2.2.2.2
    unfold mwr
    rw [wr_s]
    omega
  · rw [if_neg g]
    exact h
theorem okT_mst {f : Int → Int} {L : Nat} {x : Sta × Mem} (ht : okT f L x.2) : okT f L (mst f L x).2 := by
  unfold mst
  show okT f L (if (mq6 f L x.1 x.2).2.1 = 0 then mwr f L x.1 x.2 else x.2)
  by_cases g : (mq6 f L x.1 x.2).2.1 = 0
  · rw [if_pos g]
    unfold mwr
    exact (by (repeat' refine okT_wr ?_ (by decide) (by decide)); exact ht)
  · rw [if_neg g]
    exact ht
section FSetup
variable {f : Int → Int} {ρ : Nat → Int} {μ : Mem} {L : Nat} {s : Sta}
set_option maxRecDepth 8000 in
set_option maxHeartbeats 4000000 in
theorem f_readMember (ht : okT f L μ) (hr : rok f L s ρ) (hn : 0 ≤ μ 15 7 ∧ μ 15 7 ≤ 12) {Q : Option Value → Mem → Prop} {X : String → Mem → Prop} (K : ∀ ρ', rok f L (mst f L (s, μ)).1 ρ' → Q none (pr ρ' (mst f L (s, μ)).2)) : mt 276 6 0 0 mX7_readMember [.ref 15, .ref 3] Q X (pr ρ μ) := by
  show go 276 6 0 0 mX7_readMember Q X 0 [.ref 15, .ref 3, .null, .null, .null, .null, .null] [] _
  have J42 : ∀ (w : Int) (ρ : Nat → Int), (w = 0 ∨ w = 1) → (w = 1 ↔ μ 15 7 = 12) → rok f L (mq1 f L s μ) ρ → go 276 6 0 0 mX7_readMember Q X 42 [.ref 15, .ref 3, .int (iI w), .null, .null, .null, .null] [] (pr ρ μ) := by
    intro w ρ hw hw2 hr
    have K' : ∀ ρ', rok f L (mq6 f L s μ) ρ' → Q none (pr ρ' (if (mq6 f L s μ).2.1 = 0 then mwr f L s μ else μ)) := K
    refine go_aload_n (y := mX7_readMember) (pc := 42) dX7_readMember_42 rfl rfl ?_
    refine go_aload_n (y := mX7_readMember) (pc := 43) dX7_readMember_43 rfl rfl ?_
    refine go_callV1 (y := mX7_readMember) (pc := 44) (y' := mX7_takeNewName) (kc2 := 0) (ks2 := 0) dX7_readMember_44 ml_X7_92 ok_X7_takeNewName (show shp 15 = _ from rfl) ⟨_, _, rfl⟩ (by decide) rfl (by decide) (Nat.le_of_ble_eq_true rfl) rfl (f_takeNewName ht hr hn.1 hn.2 (fun ρ44 v44 x44 b44 e44 => ?_))
    have e44 : rok f L (mq2 f L s μ) ρ44 := by { unfold mq2 mqn; rw [← x44]; exact e44 }
    refine go_istore_n (y := mX7_readMember) (pc := 47) dX7_readMember_47 rfl (by decide) ?_
    refine go_aload_n (y := mX7_readMember) (pc := 48) dX7_readMember_48 rfl rfl ?_
    refine go_iconst (y := mX7_readMember) (pc := 49) dX7_readMember_49 ?_
    refine go_bipush (y := mX7_readMember) (pc := 50) dX7_readMember_50 (by decide) ?_
    refine go_callV2 (y := mX7_readMember) (pc := 52) (y' := mX9_takeNumber) (kc2 := 0) (ks2 := 0) dX7_readMember_52 ml_X7_63 ok_X9_takeNumber (show shp 3 = _ from rfl) ⟨_, _, rfl⟩ (by decide) ⟨rfl, rfl⟩ (by decide) (Nat.le_of_ble_eq_true rfl) rfl (f_takeNumber (by omega) (by omega) (by (repeat' refine okT_wr ?_ (by decide) (by decide)); exact ht) e44 (fun ρ52 e52 b52 => ?_))
    refine go_istore (y := mX7_readMember) (pc := 55) dX7_readMember_55 (by decide) ?_
    refine go_aload_n (y := mX7_readMember) (pc := 57) dX7_readMember_57 rfl rfl ?_
    refine go_iconst (y := mX7_readMember) (pc := 58) dX7_readMember_58 ?_
    refine go_bipush (y := mX7_readMember) (pc := 59) dX7_readMember_59 (by decide) ?_
    refine go_callV2 (y := mX7_readMember) (pc := 61) (y' := mX9_takeNumber) (kc2 := 0) (ks2 := 0) dX7_readMember_61 ml_X7_63 ok_X9_takeNumber (show shp 3 = _ from rfl) ⟨_, _, rfl⟩ (by decide) ⟨rfl, rfl⟩ (by decide) (Nat.le_of_ble_eq_true rfl) rfl (f_takeNumber (by omega) (by omega) (by (repeat' refine okT_wr ?_ (by decide) (by decide)); exact ht) e52 (fun ρ61 e61 b61 => ?_))
    refine go_istore (y := mX7_readMember) (pc := 64) dX7_readMember_64 (by decide) ?_
    refine go_aload_n (y := mX7_readMember) (pc := 66) dX7_readMember_66 rfl rfl ?_
    refine go_iconst (y := mX7_readMember) (pc := 67) dX7_readMember_67 ?_
    refine go_bipush (y := mX7_readMember) (pc := 68) dX7_readMember_68 (by decide) ?_
    refine go_callV2 (y := mX7_readMember) (pc := 70) (y' := mX9_takeNumber) (kc2 := 0) (ks2 := 0) dX7_readMember_70 ml_X7_63 ok_X9_takeNumber (show shp 3 = _ from rfl) ⟨_, _, rfl⟩ (by decide) ⟨rfl, rfl⟩ (by decide) (Nat.le_of_ble_eq_true rfl) rfl (f_takeNumber (by omega) (by omega) (by (repeat' refine okT_wr ?_ (by decide) (by decide)); exact ht) e61 (fun ρ70 e70 b70 => ?_))
    refine go_istore (y := mX7_readMember) (pc := 73) dX7_readMember_73 (by decide) ?_
    refine go_aload_n (y := mX7_readMember) (pc := 75) dX7_readMember_75 rfl rfl ?_
    refine go_bipush (y := mX7_readMember) (pc := 76) dX7_readMember_76 (by decide) ?_
    refine go_callV1 (y := mX7_readMember) (pc := 78) (y' := mX9_takeSign) (kc2 := 0) (ks2 := 0) dX7_readMember_78 ml_X7_67 ok_X9_takeSign (show shp 3 = _ from rfl) ⟨_, _, rfl⟩ (by decide) rfl (by decide) (Nat.le_of_ble_eq_true rfl) rfl (f_takeSign (by omega) (by (repeat' refine okT_wr ?_ (by decide) (by decide)); exact ht) e70 (fun ρ78 e78 => ?_))
    refine go_aload_n (y := mX7_readMember) (pc := 81) dX7_readMember_81 rfl rfl ?_
    refine go_callV0 (y := mX7_readMember) (pc := 82) (y' := mX9_isFine) (kc2 := 0) (ks2 := 0) dX7_readMember_82 ml_X7_75 ok_X9_isFine (show shp 3 = _ from rfl) ⟨_, _, rfl⟩ (by decide) trivial (by decide) (Nat.le_of_ble_eq_true rfl) rfl (f_isFine (by (repeat' refine okT_wr ?_ (by decide) (by decide)); exact ht) e78 (fun v82 e82 b82 => ?_))
    refine go_if_eq (y := mX7_readMember) (pc := 85) (tgt := 145) dX7_readMember_85 (by decide) (by omega) (fun h85 => ?_) (fun h85 => ?_)
    · skip
      have g := bI_0 e82 h85
      rw [if_neg (show ¬ (mq6 f L s μ).2.1 = 0 from g)] at K'
      refine go_return (y := mX7_readMember) (pc := 145) dX7_readMember_145 rfl ?_
      exact K' ρ78 e78
    · skip
      have g := bI_1 e82 h85
      have g' : (mq6 f L s μ).2.1 = 0 := g
      have h0 := mq_0 g'
      rw [if_pos g'] at K'
      unfold mwr at K'
      rw [← tkn3_0 (a := 1) (m := 9) h0.2.2.1, ← tkn3_0 (a := 0) (m := 20) h0.2.1, ← tkn3_0 (a := 0) (m := 99) h0.1, show mqn f L s μ = v44 from x44.symm] at K'
      refine go_iload_n (y := mX7_readMember) (pc := 88) dX7_readMember_88 rfl rfl ?_
      refine go_if_ne (y := mX7_readMember) (pc := 89) (tgt := 145) dX7_readMember_89 (by decide) (by omega) (fun h89 => ?_) (fun h89 => ?_)
      · skip
        exact absurd h89 (by omega)
      · skip
        refine go_aload_n (y := mX7_readMember) (pc := 92) dX7_readMember_92 rfl rfl ?_
        refine go_getR (y := mX7_readMember) (pc := 93) dX7_readMember_93 fl_X7_9 rfl rfl (by decide) ?_
        refine go_aload_n (y := mX7_readMember) (pc := 96) dX7_readMember_96 rfl rfl ?_
        refine go_tget (y := mX7_readMember) (pc := 97) dX7_readMember_97 fl_X7_46 rfl rfl (by decide) (by decide) (fun r97 => ?_)
        refine go_iload_n (y := mX7_readMember) (pc := 100) dX7_readMember_100 rfl rfl ?_
        refine go_tias (y := mX7_readMember) (pc := 101) (k := ((μ 15 7).toNat)) dX7_readMember_101 rfl (by decide) (by decide) (by omega) (by omega) (by decide) (by omega) ?_
        refine go_aload_n (y := mX7_readMember) (pc := 102) dX7_readMember_102 rfl rfl ?_
        refine go_getR (y := mX7_readMember) (pc := 103) dX7_readMember_103 fl_X7_15 rfl rfl (by decide) ?_
        refine go_aload_n (y := mX7_readMember) (pc := 106) dX7_readMember_106 rfl rfl ?_
        refine go_tget (y := mX7_readMember) (pc := 107) dX7_readMember_107 fl_X7_46 rfl rfl (by decide) (by decide) (fun r107 => ?_)
        refine go_iload (y := mX7_readMember) (pc := 110) dX7_readMember_110 rfl ?_
        refine go_tias (y := mX7_readMember) (pc := 112) (k := ((μ 15 7).toNat)) dX7_readMember_112 rfl (by decide) (by decide) (by rw [wr_na (by decide)]; omega) (by omega) (by decide) (by omega) ?_
        refine go_aload_n (y := mX7_readMember) (pc := 113) dX7_readMember_113 rfl rfl ?_
        refine go_getR (y := mX7_readMember) (pc := 114) dX7_readMember_114 fl_X7_18 rfl rfl (by decide) ?_
        refine go_aload_n (y := mX7_readMember) (pc := 117) dX7_readMember_117 rfl rfl ?_
        refine go_tget (y := mX7_readMember) (pc := 118) dX7_readMember_118 fl_X7_46 rfl rfl (by decide) (by decide) (fun r118 => ?_)
        refine go_iload (y := mX7_readMember) (pc := 121) dX7_readMember_121 rfl ?_
        refine go_tias (y := mX7_readMember) (pc := 123) (k := ((μ 15 7).toNat)) dX7_readMember_123 rfl (by decide) (by decide) (by rw [wr_na (by decide), wr_na (by decide)]; omega) (by omega) (by decide) (by omega) ?_
        refine go_aload_n (y := mX7_readMember) (pc := 124) dX7_readMember_124 rfl rfl ?_
        refine go_getR (y := mX7_readMember) (pc := 125) dX7_readMember_125 fl_X7_21 rfl rfl (by decide) ?_
        refine go_aload_n (y := mX7_readMember) (pc := 128) dX7_readMember_128 rfl rfl ?_
        refine go_tget (y := mX7_readMember) (pc := 129) dX7_readMember_129 fl_X7_46 rfl rfl (by decide) (by decide) (fun r129 => ?_)
        refine go_iload (y := mX7_readMember) (pc := 132) dX7_readMember_132 rfl ?_
        refine go_tias (y := mX7_readMember) (pc := 134) (k := ((μ 15 7).toNat)) dX7_readMember_134 rfl (by decide) (by decide) (by rw [wr_na (by decide), wr_na (by decide), wr_na (by decide)]; omega) (by omega) (by decide) (by omega) ?_
        refine go_aload_n (y := mX7_readMember) (pc := 135) dX7_readMember_135 rfl rfl ?_
        refine go_dup (y := mX7_readMember) (pc := 136) dX7_readMember_136 rfl ?_
        refine go_tget (y := mX7_readMember) (pc := 137) dX7_readMember_137 fl_X7_46 rfl rfl (by decide) (by decide) (fun r137 => ?_)
        refine go_top (b := μ 15 7) ((by rw [wr_na (by decide), wr_na (by decide), wr_na (by decide), wr_na (by decide)])) (fun t137 => ?_)
        refine go_iconst (y := mX7_readMember) (pc := 140) dX7_readMember_140 ?_
        refine go_iadd (y := mX7_readMember) (pc := 141) dX7_readMember_141 ?_
        refine go_tput (y := mX7_readMember) (pc := 142) dX7_readMember_142 fp_X7_46 rfl rfl (by decide) (by decide) (by omega) ?_
        refine go_return (y := mX7_readMember) (pc := 145) dX7_readMember_145 rfl ?_
        exact K' ρ78 e78
  have J15 : ∀ (w : Int), (w = 0 ∨ w = 1) → (w = 1 ↔ μ 15 7 = 12) → go 276 6 0 0 mX7_readMember Q X 14 [.ref 15, .ref 3, .null, .null, .null, .null, .null] [.int (iI w)] (pr ρ μ) := by
    intro w hw hw2
    have J36 : (w = 1 → ¬ atw f L s.1 "member") → go 276 6 0 0 mX7_readMember Q X 36 [.ref 15, .ref 3, .int (iI w), .null, .null, .null, .null] [] (pr ρ μ) := by
      intro hp
      refine go_aload_n (y := mX7_readMember) (pc := 36) dX7_readMember_36 rfl rfl ?_
      refine go_ldc (y := mX7_readMember) (pc := 37) (i := 2) dX7_readMember_37 rfl ?_
      refine go_callV1 (y := mX7_readMember) (pc := 39) (y' := mX9_takeWord) (kc2 := 0) (ks2 := 0) dX7_readMember_39 ml_X7_57 ok_X9_takeWord (show shp 3 = _ from rfl) ⟨_, _, rfl⟩ (by decide) rfl (by decide) (Nat.le_of_ble_eq_true rfl) rfl (f_takeWord (k := 2) rfl ht hr (fun ρ39 e39 => ?_))
      refine J42 w ρ39 hw hw2 ?_
      unfold mq1
      by_cases g : w = 1
      · rw [mus_ff (show (1 : Int) ≠ 0 by decide) (hp g)]
        exact e39
      · rw [mus_t (p := μ 15 7 < 12) (by omega)]
        exact e39
    refine go_istore_n (y := mX7_readMember) (pc := 14) dX7_readMember_14 rfl (by decide) ?_
    refine go_iload_n (y := mX7_readMember) (pc := 15) dX7_readMember_15 rfl rfl ?_
    refine go_if_eq (y := mX7_readMember) (pc := 16) (tgt := 36) dX7_readMember_16 (by decide) (by omega) (fun h16 => ?_) (fun h16 => ?_)
    · skip
      exact J36 (fun w9 => absurd w9 (by omega))
    · skip
      refine go_aload_n (y := mX7_readMember) (pc := 19) dX7_readMember_19 rfl rfl ?_
      refine go_ldc (y := mX7_readMember) (pc := 20) (i := 2) dX7_readMember_20 rfl ?_
      refine go_callV1 (y := mX7_readMember) (pc := 22) (y' := mX9_isAtWord_) (kc2 := 0) (ks2 := 0) dX7_readMember_22 ml_X7_84 ok_X9_isAtWord_ (show shp 3 = _ from rfl) ⟨_, _, rfl⟩ (by decide) rfl (by decide) (Nat.le_of_ble_eq_true rfl) rfl (f_isWord (k := 2) rfl ht hr (fun v22 e22 b22 => ?_))
      refine go_if_eq (y := mX7_readMember) (pc := 25) (tgt := 36) dX7_readMember_25 (by decide) (by omega) (fun h25 => ?_) (fun h25 => ?_)
      · skip
        exact J36 (fun _ => bI_0 e22 h25)
      · skip
        have g := bI_1 e22 h25
        refine go_aload_n (y := mX7_readMember) (pc := 28) dX7_readMember_28 rfl rfl ?_
        refine go_iconst (y := mX7_readMember) (pc := 29) dX7_readMember_29 ?_
        refine go_callV1 (y := mX7_readMember) (pc := 30) (y' := mX9_take) (kc2 := 0) (ks2 := 0) dX7_readMember_30 ml_X7_88 ok_X9_take (show shp 3 = _ from rfl) ⟨_, _, rfl⟩ (by decide) rfl (by decide) (Nat.le_of_ble_eq_true rfl) rfl (f_take (by omega) (by (repeat' refine okT_wr ?_ (by decide) (by decide)); exact ht) hr (fun ρ30 e30 => ?_))
        refine go_goto (y := mX7_readMember) (pc := 33) (tgt := 42) dX7_readMember_33 (by decide) ?_
        refine J42 w ρ30 hw hw2 ?_
        unfold mq1
        rw [mus_t (p := atw f L s.1 "member") g, mus_e (p := μ 15 7 < 12) (q := (4 : Int) = 0) (iff_of_false (by omega) (by decide))]
        exact e30
  refine go_aload_n (y := mX7_readMember) (pc := 0) dX7_readMember_0 rfl rfl ?_
  refine go_tget (y := mX7_readMember) (pc := 1) dX7_readMember_1 fl_X7_46 rfl rfl (by decide) (by decide) (fun r1 => ?_)
  refine go_bipush (y := mX7_readMember) (pc := 4) dX7_readMember_4 (by decide) ?_
  refine go_icmp_ne (y := mX7_readMember) (pc := 6) (tgt := 13) dX7_readMember_6 (by decide) (by omega) (by omega) (fun h6 => ?_) (fun h6 => ?_)
  · skip
    refine go_iconst (y := mX7_readMember) (pc := 13) dX7_readMember_13 ?_
    exact J15 0 (by omega) (by omega)
  · skip
    refine go_iconst (y := mX7_readMember) (pc := 9) dX7_readMember_9 ?_
    refine go_goto (y := mX7_readMember) (pc := 10) (tgt := 14) dX7_readMember_10 (by decide) ?_
    exact J15 1 (by omega) (by omega)
set_option maxRecDepth 8000 in
set_option maxHeartbeats 4000000 in
theorem f_readFrom (ht : okT f L μ) (hr : rok f L s ρ) {Q : Option Value → Mem → Prop} {X : String → Mem → Prop} (K : ∀ ρ', rok f L (rdS f L s μ).1 ρ' → Q none (pr ρ' (rdS f L s μ).2)) : mt 276 7 0 0 mX7_readFrom [.ref 15, .ref 3] Q X (pr ρ μ) := by
  show go 276 7 0 0 mX7_readFrom Q X 0 [.ref 15, .ref 3, .null] [] _
  have loop : ∀ (n k : Nat) (x : Sta × Mem) (ρ : Nat → Int), k + n = 12 → okT f L x.2 → rok f L x.1 ρ → (0 ≤ x.2 15 7 ∧ x.2 15 7 ≤ 12) → rdl f L n x = rdS f L s μ → go 276 7 0 0 mX7_readFrom Q X 99 [.ref 15, .ref 3, .int (iI (k : Nat))] [] (pr ρ x.2) := by
    intro n
    induction n with
    | zero =>
      intro k x ρ hk ht hr h7 he
      rw [rdl] at he
      rw [← he] at K
      refine go_iload_n (y := mX7_readFrom) (pc := 99) dX7_readFrom_99 rfl rfl ?_
      refine go_bipush (y := mX7_readFrom) (pc := 100) dX7_readFrom_100 (by decide) ?_
      refine go_icmp_ge (y := mX7_readFrom) (pc := 102) (tgt := 130) dX7_readFrom_102 (by decide) (by omega) (by omega) (fun h102 => ?_) (fun h102 => ?_)
      · skip
        refine go_return (y := mX7_readFrom) (pc := 130) dX7_readFrom_130 rfl ?_
        exact K ρ hr
      · skip
        exact absurd h102 (by omega)
    | succ n ih =>
      intro k x ρ hk ht hr h7 he
      rw [rdl] at he
      have J130 : ¬ (x.1.2.1 = 0 ∧ tkK f x.1.1 ≠ 0) → go 276 7 0 0 mX7_readFrom Q X 130 [.ref 15, .ref 3, .int (iI (k : Nat))] [] (pr ρ x.2) := by
        intro g
        rw [if_neg g] at he
        rw [← he] at K
        refine go_return (y := mX7_readFrom) (pc := 130) dX7_readFrom_130 rfl ?_
        exact K ρ hr
      refine go_iload_n (y := mX7_readFrom) (pc := 99) dX7_readFrom_99 rfl rfl ?_
      refine go_bipush (y := mX7_readFrom) (pc := 100) dX7_readFrom_100 (by decide) ?_
      refine go_icmp_ge (y := mX7_readFrom) (pc := 102) (tgt := 130) dX7_readFrom_102 (by decide) (by omega) (by omega) (fun h102 => ?_) (fun h102 => ?_)
      · skip
        exact absurd h102 (by omega)
      · skip
        refine go_aload_n (y := mX7_readFrom) (pc := 105) dX7_readFrom_105 rfl rfl ?_
        refine go_callV0 (y := mX7_readFrom) (pc := 106) (y' := mX9_isFine) (kc2 := 0) (ks2 := 0) dX7_readFrom_106 ml_X7_75 ok_X9_isFine (show shp 3 = _ from rfl) ⟨_, _, rfl⟩ (by decide) trivial (by decide) (Nat.le_of_ble_eq_true rfl) rfl (f_isFine (by (repeat' refine okT_wr ?_ (by decide) (by decide)); exact ht) hr (fun v106 e106 b106 => ?_))
        refine go_if_eq (y := mX7_readFrom) (pc := 109) (tgt := 130) dX7_readFrom_109 (by decide) (by omega) (fun h109 => ?_) (fun h109 => ?_)
        · skip
          exact J130 (fun w => bI_0 e106 h109 w.1)
        · skip
          refine go_aload_n (y := mX7_readFrom) (pc := 112) dX7_readFrom_112 rfl rfl ?_
          refine go_callV0 (y := mX7_readFrom) (pc := 113) (y' := mX9_isAtEnd) (kc2 := 0) (ks2 := 0) dX7_readFrom_113 ml_X7_79 ok_X9_isAtEnd (show shp 3 = _ from rfl) ⟨_, _, rfl⟩ (by decide) trivial (by decide) (Nat.le_of_ble_eq_true rfl) rfl (f_isAtEnd (by (repeat' refine okT_wr ?_ (by decide) (by decide)); exact ht) hr (fun v113 e113 b113 => ?_))
          refine go_if_ne (y := mX7_readFrom) (pc := 116) (tgt := 130) dX7_readFrom_116 (by decide) (by omega) (fun h116 => ?_) (fun h116 => ?_)
          · skip
            exact J130 (fun w => w.2 (bI_1 e113 h116))
          · skip
            rw [if_pos ⟨bI_1 e106 h109, bI_0 e113 h116⟩] at he
            refine go_aload_n (y := mX7_readFrom) (pc := 119) dX7_readFrom_119 rfl rfl ?_
            refine go_aload_n (y := mX7_readFrom) (pc := 120) dX7_readFrom_120 rfl rfl ?_
            refine go_callV1 (y := mX7_readFrom) (pc := 121) (y' := mX7_readMember) (kc2 := 0) (ks2 := 0) dX7_readFrom_121 ml_X7_71 ok_X7_readMember (show shp 15 = _ from rfl) ⟨_, _, rfl⟩ (by decide) rfl (by decide) (Nat.le_of_ble_eq_true rfl) rfl (f_readMember ht hr h7 (fun ρ121 e121 => ?_))
            refine go_iinc (y := mX7_readFrom) (pc := 124) dX7_readFrom_124 rfl (by decide) ?_
            refine go_goto (y := mX7_readFrom) (pc := 127) (tgt := 99) dX7_readFrom_127 (by decide) ?_
            exact ih (k + 1) (mst f L x) ρ121 (by omega) (okT_mst ht) e121 (mst_7 h7) he
  have hm : okT f L (hdm f L s μ).2 := by
    unfold hdm
    exact (by (repeat' refine okT_wr ?_ (by decide) (by decide)); exact ht)
  have h7 : (hdm f L s μ).2 15 7 = 0 := rfl
  refine go_aload_n (y := mX7_readFrom) (pc := 0) dX7_readFrom_0 rfl rfl ?_
  refine go_ldc (y := mX7_readFrom) (pc := 1) (i := 1) dX7_readFrom_1 rfl ?_
  refine go_callV1 (y := mX7_readFrom) (pc := 3) (y' := mX9_takeWord) (kc2 := 0) (ks2 := 0) dX7_readFrom_3 ml_X7_57 ok_X9_takeWord (show shp 3 = _ from rfl) ⟨_, _, rfl⟩ (by decide) rfl (by decide) (Nat.le_of_ble_eq_true rfl) rfl (f_takeWord (k := 1) rfl ht hr (fun ρ3 e3 => ?_))
  have e3 : rok f L (hq0 f L s) ρ3 := e3
  refine go_aload_n (y := mX7_readFrom) (pc := 6) dX7_readFrom_6 rfl rfl ?_
  refine go_aload_n (y := mX7_readFrom) (pc := 7) dX7_readFrom_7 rfl rfl ?_
  refine go_iconst (y := mX7_readFrom) (pc := 8) dX7_readFrom_8 ?_
  refine go_iconst (y := mX7_readFrom) (pc := 9) dX7_readFrom_9 ?_
  refine go_callV2 (y := mX7_readFrom) (pc := 10) (y' := mX9_takeNumber) (kc2 := 0) (ks2 := 0) dX7_readFrom_10 ml_X7_63 ok_X9_takeNumber (show shp 3 = _ from rfl) ⟨_, _, rfl⟩ (by decide) ⟨rfl, rfl⟩ (by decide) (Nat.le_of_ble_eq_true rfl) rfl (f_takeNumber (by omega) (by omega) (by (repeat' refine okT_wr ?_ (by decide) (by decide)); exact ht) e3 (fun ρ10 e10 b10 => ?_))
  refine go_tput (y := mX7_readFrom) (pc := 13) dX7_readFrom_13 fp_X7_24 rfl rfl (by decide) (by decide) (by omega) ?_
  refine go_aload_n (y := mX7_readFrom) (pc := 16) dX7_readFrom_16 rfl rfl ?_
  refine go_aload_n (y := mX7_readFrom) (pc := 17) dX7_readFrom_17 rfl rfl ?_
  refine go_iconst (y := mX7_readFrom) (pc := 18) dX7_readFrom_18 ?_
  refine go_iconst (y := mX7_readFrom) (pc := 19) dX7_readFrom_19 ?_
  refine go_callV2 (y := mX7_readFrom) (pc := 20) (y' := mX9_takeNumber) (kc2 := 0) (ks2 := 0) dX7_readFrom_20 ml_X7_63 ok_X9_takeNumber (show shp 3 = _ from rfl) ⟨_, _, rfl⟩ (by decide) ⟨rfl, rfl⟩ (by decide) (Nat.le_of_ble_eq_true rfl) rfl (f_takeNumber (by omega) (by omega) (by (repeat' refine okT_wr ?_ (by decide) (by decide)); exact ht) e10 (fun ρ20 e20 b20 => ?_))
  refine go_tput (y := mX7_readFrom) (pc := 23) dX7_readFrom_23 fp_X7_28 rfl rfl (by decide) (by decide) (by omega) ?_
  refine go_aload_n (y := mX7_readFrom) (pc := 26) dX7_readFrom_26 rfl rfl ?_
  refine go_aload_n (y := mX7_readFrom) (pc := 27) dX7_readFrom_27 rfl rfl ?_
  refine go_iconst (y := mX7_readFrom) (pc := 28) dX7_readFrom_28 ?_
  refine go_bipush (y := mX7_readFrom) (pc := 29) dX7_readFrom_29 (by decide) ?_
  refine go_callV2 (y := mX7_readFrom) (pc := 31) (y' := mX9_takeNumber) (kc2 := 0) (ks2 := 0) dX7_readFrom_31 ml_X7_63 ok_X9_takeNumber (show shp 3 = _ from rfl) ⟨_, _, rfl⟩ (by decide) ⟨rfl, rfl⟩ (by decide) (Nat.le_of_ble_eq_true rfl) rfl (f_takeNumber (by omega) (by omega) (by (repeat' refine okT_wr ?_ (by decide) (by decide)); exact ht) e20 (fun ρ31 e31 b31 => ?_))
  refine go_tput (y := mX7_readFrom) (pc := 34) dX7_readFrom_34 fp_X7_31 rfl rfl (by decide) (by decide) (by omega) ?_
  refine go_aload_n (y := mX7_readFrom) (pc := 37) dX7_readFrom_37 rfl rfl ?_
  refine go_aload_n (y := mX7_readFrom) (pc := 38) dX7_readFrom_38 rfl rfl ?_
  refine go_iconst (y := mX7_readFrom) (pc := 39) dX7_readFrom_39 ?_
  refine go_bipush (y := mX7_readFrom) (pc := 40) dX7_readFrom_40 (by decide) ?_
  refine go_callV2 (y := mX7_readFrom) (pc := 42) (y' := mX9_takeNumber) (kc2 := 0) (ks2 := 0) dX7_readFrom_42 ml_X7_63 ok_X9_takeNumber (show shp 3 = _ from rfl) ⟨_, _, rfl⟩ (by decide) ⟨rfl, rfl⟩ (by decide) (Nat.le_of_ble_eq_true rfl) rfl (f_takeNumber (by omega) (by omega) (by (repeat' refine okT_wr ?_ (by decide) (by decide)); exact ht) e31 (fun ρ42 e42 b42 => ?_))
  refine go_tput (y := mX7_readFrom) (pc := 45) dX7_readFrom_45 fp_X7_34 rfl rfl (by decide) (by decide) (by omega) ?_
  refine go_aload_n (y := mX7_readFrom) (pc := 48) dX7_readFrom_48 rfl rfl ?_
  refine go_aload_n (y := mX7_readFrom) (pc := 49) dX7_readFrom_49 rfl rfl ?_
  refine go_iconst (y := mX7_readFrom) (pc := 50) dX7_readFrom_50 ?_
  refine go_bipush (y := mX7_readFrom) (pc := 51) dX7_readFrom_51 (by decide) ?_
  refine go_callV2 (y := mX7_readFrom) (pc := 53) (y' := mX9_takeNumber) (kc2 := 0) (ks2 := 0) dX7_readFrom_53 ml_X7_63 ok_X9_takeNumber (show shp 3 = _ from rfl) ⟨_, _, rfl⟩ (by decide) ⟨rfl, rfl⟩ (by decide) (Nat.le_of_ble_eq_true rfl) rfl (f_takeNumber (by omega) (by omega) (by (repeat' refine okT_wr ?_ (by decide) (by decide)); exact ht) e42 (fun ρ53 e53 b53 => ?_))
  refine go_tput (y := mX7_readFrom) (pc := 56) dX7_readFrom_56 fp_X7_37 rfl rfl (by decide) (by decide) (by omega) ?_
  refine go_aload_n (y := mX7_readFrom) (pc := 59) dX7_readFrom_59 rfl rfl ?_
  refine go_aload_n (y := mX7_readFrom) (pc := 60) dX7_readFrom_60 rfl rfl ?_
  refine go_iconst (y := mX7_readFrom) (pc := 61) dX7_readFrom_61 ?_
  refine go_bipush (y := mX7_readFrom) (pc := 62) dX7_readFrom_62 (by decide) ?_
  refine go_callV2 (y := mX7_readFrom) (pc := 64) (y' := mX9_takeNumber) (kc2 := 0) (ks2 := 0) dX7_readFrom_64 ml_X7_63 ok_X9_takeNumber (show shp 3 = _ from rfl) ⟨_, _, rfl⟩ (by decide) ⟨rfl, rfl⟩ (by decide) (Nat.le_of_ble_eq_true rfl) rfl (f_takeNumber (by omega) (by omega) (by (repeat' refine okT_wr ?_ (by decide) (by decide)); exact ht) e53 (fun ρ64 e64 b64 => ?_))
  refine go_tput (y := mX7_readFrom) (pc := 67) dX7_readFrom_67 fp_X7_40 rfl rfl (by decide) (by decide) (by omega) ?_
  refine go_aload_n (y := mX7_readFrom) (pc := 70) dX7_readFrom_70 rfl rfl ?_
  refine go_aload_n (y := mX7_readFrom) (pc := 71) dX7_readFrom_71 rfl rfl ?_
  refine go_iconst (y := mX7_readFrom) (pc := 72) dX7_readFrom_72 ?_
  refine go_bipush (y := mX7_readFrom) (pc := 73) dX7_readFrom_73 (by decide) ?_
  refine go_callV2 (y := mX7_readFrom) (pc := 75) (y' := mX9_takeNumber) (kc2 := 0) (ks2 := 0) dX7_readFrom_75 ml_X7_63 ok_X9_takeNumber (show shp 3 = _ from rfl) ⟨_, _, rfl⟩ (by decide) ⟨rfl, rfl⟩ (by decide) (Nat.le_of_ble_eq_true rfl) rfl (f_takeNumber (by omega) (by omega) (by (repeat' refine okT_wr ?_ (by decide) (by decide)); exact ht) e64 (fun ρ75 e75 b75 => ?_))
  refine go_tput (y := mX7_readFrom) (pc := 78) dX7_readFrom_78 fp_X7_43 rfl rfl (by decide) (by decide) (by omega) ?_
  refine go_aload_n (y := mX7_readFrom) (pc := 81) dX7_readFrom_81 rfl rfl ?_
  refine go_bipush (y := mX7_readFrom) (pc := 82) dX7_readFrom_82 (by decide) ?_
  refine go_callV1 (y := mX7_readFrom) (pc := 84) (y' := mX9_takeSign) (kc2 := 0) (ks2 := 0) dX7_readFrom_84 ml_X7_67 ok_X9_takeSign (show shp 3 = _ from rfl) ⟨_, _, rfl⟩ (by decide) rfl (by decide) (Nat.le_of_ble_eq_true rfl) rfl (f_takeSign (by omega) (by (repeat' refine okT_wr ?_ (by decide) (by decide)); exact ht) e75 (fun ρ84 e84 => ?_))
  refine go_aload_n (y := mX7_readFrom) (pc := 87) dX7_readFrom_87 rfl rfl ?_
  refine go_iconst (y := mX7_readFrom) (pc := 88) dX7_readFrom_88 ?_
  refine go_tput (y := mX7_readFrom) (pc := 89) dX7_readFrom_89 fp_X7_46 rfl rfl (by decide) (by decide) (by omega) ?_
  refine go_aload_n (y := mX7_readFrom) (pc := 92) dX7_readFrom_92 rfl rfl ?_
  refine go_aload_n (y := mX7_readFrom) (pc := 93) dX7_readFrom_93 rfl rfl ?_
  refine go_callV1 (y := mX7_readFrom) (pc := 94) (y' := mX7_readMember) (kc2 := 0) (ks2 := 0) dX7_readFrom_94 ml_X7_71 ok_X7_readMember (show shp 15 = _ from rfl) ⟨_, _, rfl⟩ (by decide) rfl (by decide) (Nat.le_of_ble_eq_true rfl) rfl (f_readMember (s := hq8 f L s) hm e84 (by rw [h7]; decide) (fun ρ94 e94 => ?_))
  refine go_iconst (y := mX7_readFrom) (pc := 97) dX7_readFrom_97 ?_
  refine go_istore_n (y := mX7_readFrom) (pc := 98) dX7_readFrom_98 rfl (by decide) ?_
  exact loop 12 0 (mst f L (hdm f L s μ)) ρ94 (by omega) (okT_mst hm) e94 (mst_7 (by rw [h7]; decide)) rfl
end FSetup
