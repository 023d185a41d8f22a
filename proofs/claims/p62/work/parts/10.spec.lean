/-! THE RULES OF THE CHAMBER, said of the setup S and the chamber's rows s: 2 purse, 3 sharpness, 4 speeches, 5 0 motions, 6 proposer, 7 state, 8 lather, 9 latest side, 10 leanings, 11 0 requests, 12 13 14 their member, motion, side, 16 speaker, 17 motion, 18 side, 19 remaining, 20 mirrors; 0 5 minute, 6 ranking, 7 tips, 8 votes, 9 rebuttals, 10 sharpenings -/
def smf (f : Nat → Int) : Nat → Int
  | 0 => 0
  | n + 1 => smf f n + f n
theorem smf_cong {f g : Nat → Int} : ∀ {n : Nat}, (∀ k, k < n → f k = g k) → smf f n = smf g n
  | 0, _ => rfl
  | n + 1, h => by rw [smf, smf, smf_cong (fun k hk => h k (by omega)), h n (by omega)]
theorem smf_bd {f : Nat → Int} {b : Int} : ∀ {n : Nat}, (∀ k, k < n → 0 ≤ f k ∧ f k ≤ b) → 0 ≤ smf f n ∧ smf f n ≤ n * b
  | 0, _ => by simp [smf]
  | n + 1, h => by
    have h1 := smf_bd (n := n) (fun k hk => h k (by omega))
    have h2 := h n (by omega)
    have e : ((n + 1 : Nat) : Int) * b = n * b + b := by rw [Int.natCast_add, Int.add_mul]; simp
    rw [smf, e]
    omega
/-- the first k below n with p, or n -/
def fst_k (p : Nat → Bool) : Nat → Nat → Nat
  | 0, k => k
  | n + 1, k => if p k then k else fst_k p n (k + 1)
def ln (s : Mem) (m q : Nat) : Int := s 10 (q * 12 + m)
def vt (s : Mem) (m q : Nat) : Int := if s 3 m = 0 ∨ ln s m q = 0 then 0 else if ln s m q > 0 then 1 else -1
def nvt (S s : Mem) (q : Nat) : Int := smf (fun m => if vt s m q = 0 then 0 else 1) (S 0 7).toNat
def wvt (S s : Mem) (q : Nat) (side : Int) : Int := smf (fun m => if vt s m q = side then S 2 m else 0) (S 0 7).toNat
def mgn (S s : Mem) (q : Nat) : Int := wvt S s q 1 - wvt S s q (-1)
abbrev opn (s : Mem) (q : Int) : Prop := 0 ≤ q ∧ q < s 5 0 ∧ s 7 q.toNat = 0
/-- where p holds first among 0 .. n-1, else -1 -/
def fnd (p : Nat → Prop) [DecidablePred p] : Nat → Int
  | 0 => -1
  | n + 1 => if fnd p n = -1 then (if p n then (n : Int) else -1) else fnd p n
def tkn (s : Mem) (m : Int) : Int := fnd (fun h => s 16 h = m) 4
abbrev spa (s : Mem) (q : Int) : Prop := fnd (fun h => s 16 h ≠ -1 ∧ s 17 h = q) 4 ≠ -1
def plc (s : Mem) (m : Int) : Int := fnd (fun r => s 12 r = m) (s 11 0).toNat
def mrs (s : Mem) : Int := smf (fun h => s 20 h) 4
def frm (S s : Mem) : Int := S 0 1 - mrs s
def obs (S s : Mem) (q : Nat) : Int := if s 7 q ≠ 0 then 1 else if s 8 q < S 0 5 then 2 else if spa s q then 3 else if nvt S s q < S 0 6 then 4 else 0
theorem fnd_0 {p : Nat → Prop} [DecidablePred p] : ∀ {n : Nat}, (∀ k, k < n → ¬ p k) → fnd p n = -1
  | 0, _ => rfl
  | n + 1, h => by rw [fnd, if_pos (fnd_0 (fun k hk => h k (by omega))), if_neg (h n (by omega))]
theorem fnd_1 {p : Nat → Prop} [DecidablePred p] {k : Nat} : ∀ {n : Nat}, k < n → p k → (∀ i, i < k → ¬ p i) → fnd p n = k
  | 0, h, _, _ => by omega
  | n + 1, h, hp, hi => by
    by_cases e : k = n
    · subst e
      rw [fnd, if_pos (fnd_0 hi), if_pos hp]
    · have h1 := fnd_1 (n := n) (by omega) hp hi
      rw [fnd, if_neg (by omega), h1]
theorem fnd_no {p : Nat → Prop} [DecidablePred p] : ∀ {n : Nat}, fnd p n = -1 → ∀ k, k < n → ¬ p k
  | 0, _, k, hk => by omega
  | n + 1, h, k, hk => by
    rw [fnd] at h
    by_cases h1 : fnd p n = -1
    · rw [if_pos h1] at h
      by_cases e : k = n
      · subst e
        intro hp
        rw [if_pos hp] at h
        omega
      · exact fnd_no h1 k (by omega)
    · rw [if_neg h1] at h
      exact absurd h h1
theorem fnd_ge {p : Nat → Prop} [DecidablePred p] : ∀ {n : Nat}, fnd p n = -1 ∨ ∃ k : Nat, k < n ∧ fnd p n = k ∧ p k ∧ ∀ i, i < k → ¬ p i
  | 0 => Or.inl rfl
  | n + 1 => by
    rcases fnd_ge (p := p) (n := n) with h | ⟨k, h1, h2, h3, h4⟩
    · by_cases hp : p n
      · refine Or.inr ⟨n, by omega, by rw [fnd, if_pos h, if_pos hp], hp, fun i hi hpi => ?_⟩
        rcases fnd_no h i hi with q
        exact q hpi
      · exact Or.inl (by rw [fnd, if_pos h, if_neg hp])
    · exact Or.inr ⟨k, by omega, by rw [fnd, if_neg (by omega), h2], h3, h4⟩
/-! state changes -/
def lve (s : Mem) (h : Nat) : Mem := wr (wr (wr s 16 h (-1)) 19 h 0) 20 h 0
def clk (s : Mem) (k : Nat) : Mem := fun r j => if j < k ∧ r = 16 then -1 else if j < k ∧ (r = 19 ∨ r = 20) then 0 else s r j
theorem clk_0 (s : Mem) : clk s 0 = s := by funext r j; unfold clk; rw [if_neg (by omega), if_neg (by omega)]
theorem clk_s (s : Mem) (k : Nat) : lve (clk s k) k = clk s (k + 1) := by
  funext r j
  simp only [lve, wr, clk]
  (repeat' split) <;> first | rfl | omega
/-- motions dry -/
def dry_k (s : Mem) (k : Nat) : Mem := fun r j => if r = 8 ∧ j < k ∧ s 7 j = 0 ∧ s 8 j > 0 then s 8 j - 1 else s r j
def dry (s : Mem) : Mem := dry_k s (s 5 0).toNat
def clp (v : Int) : Int := max (-20) (min v 20)
def sln (s : Mem) (m q : Nat) (v : Int) : Mem := wr s 10 (q * 12 + m) (clp v)
/-! requests -/
def mvr (s : Mem) (i e : Nat) : Mem := wr (wr (wr s 12 e (s 12 i)) 13 e (s 13 i)) 14 e (s 14 i)
def rmk (s : Mem) (p : Nat) : Nat → Mem
  | 0 => s
  | k + 1 => mvr (rmk s p k) (p + 1 + k) (p + k)
def rmv (s : Mem) (p : Nat) : Mem := wr (rmk s p ((s 11 0).toNat - (p + 1))) 11 0 (s 11 0 - 1)
def cab_k (s : Mem) (q : Int) : Nat → Mem × Nat
  | 0 => (s, 0)
  | k + 1 => if (cab_k s q k).1 13 k ≠ q then (mvr (cab_k s q k).1 k (cab_k s q k).2, (cab_k s q k).2 + 1) else cab_k s q k
def cab (s : Mem) (q : Int) : Mem := wr (cab_k s q (s 11 0).toNat).1 11 0 ((cab_k s q (s 11 0).toNat).2 : Int)
def rad (s : Mem) (m q sd : Int) : Mem := wr (wr (wr (wr s 12 (s 11 0).toNat m) 13 (s 11 0).toNat q) 14 (s 11 0).toNat sd) 11 0 (s 11 0 + 1)
theorem cab_k_le (s : Mem) (q : Int) : ∀ k, (cab_k s q k).2 ≤ k
  | 0 => Nat.le_refl 0
  | k + 1 => by
    have h := cab_k_le s q k
    rw [cab_k]
    split
    · show (cab_k s q k).2 + 1 ≤ k + 1
      omega
    · omega
theorem mvr_o {s : Mem} {i e r j : Nat} (h : r < 12 ∨ 14 < r) : mvr s i e r j = s r j := by
  unfold mvr
  rw [wr_na (by omega), wr_na (by omega), wr_na (by omega)]
theorem rmk_o {s : Mem} {p r j : Nat} (h : r < 12 ∨ 14 < r) : ∀ k, rmk s p k r j = s r j
  | 0 => rfl
  | k + 1 => by rw [rmk, mvr_o h, rmk_o h k]
theorem rmv_o {s : Mem} {p r j : Nat} (h : r < 11 ∨ 14 < r) : rmv s p r j = s r j := by
  unfold rmv
  rw [wr_na (by omega), rmk_o (by omega)]
theorem cab_k_o {s : Mem} {q : Int} {r j : Nat} (h : r < 12 ∨ 14 < r) : ∀ k, (cab_k s q k).1 r j = s r j
  | 0 => rfl
  | k + 1 => by
    rw [cab_k]
    split
    · show mvr _ _ _ r j = _
      rw [mvr_o h, cab_k_o h k]
    · exact cab_k_o h k
theorem cab_o {s : Mem} {q : Int} {r j : Nat} (h : r < 11 ∨ 14 < r) : cab s q r j = s r j := by
  unfold cab
  rw [wr_na (by omega), cab_k_o (by omega)]
/-! members, motions -/
def mck (S s : Mem) : Nat → Mem
  | 0 => s
  | k + 1 => wr (wr (wr (mck S s k) 2 k (S 4 k)) 3 k 5) 4 k 0
def amk (S s : Mem) (q : Nat) (x : Int) : Nat → Mem
  | 0 => s
  | k + 1 => sln (amk S s q x k) k q (5 - ((S 3 k - x).natAbs : Int))
def am0 (s : Mem) (m : Int) (q : Nat) : Mem := wr (wr (wr (wr s 6 q m) 7 q 0) 8 q 0) 9 q 0
def amo (S s : Mem) (m x : Int) : Mem :=
  wr (amk S (am0 s m (s 5 0).toNat) (s 5 0).toNat x (S 0 7).toNat) 5 0 (s 5 0 + 1)
def clo (s : Mem) (q : Nat) (st : Int) : Mem := cab (wr s 7 q st) q
theorem sln_o {s : Mem} {m q : Nat} {v : Int} {r j : Nat} (h : r ≠ 10) : sln s m q v r j = s r j := wr_na h
theorem amk_o {S s : Mem} {q : Nat} {x : Int} {r j : Nat} (h : r ≠ 10) : ∀ k, amk S s q x k r j = s r j
  | 0 => rfl
  | k + 1 => by rw [amk, sln_o h, amk_o h k]
/-! speeches -/
def rnk (S s : Mem) (r : Nat) (rk : Int) : Int :=
  if rk = 1 then -(S 2 (s 12 r).toNat) else if rk = 2 then s 4 (s 12 r).toNat else if rk = 3 then (if s 9 (s 13 r).toNat = -(s 14 r) then 0 else 1) else 0
def fsk (S s : Mem) (rk : Int) : Nat → Int × Int
  | 0 => (-1, 0)
  | k + 1 => if (fsk S s rk k).1 = -1 ∨ rnk S s k rk < (fsk S s rk k).2 then ((k : Int), rnk S s k rk) else fsk S s rk k
def fsl (S s : Mem) (rk : Int) : Int := (fsk S s rk (s 11 0).toNat).1
def spk (S s : Mem) (h p : Nat) : Mem :=
  let m := (s 12 p).toNat; let q := (s 13 p).toNat; let d := s 14 p
  let t := wr (wr (wr (wr (wr (rmv s p) 16 h m) 17 h q) 18 h d) 19 h (S 0 2)) 9 q d
  wr t 4 m (wp (t 4 m + 1))
def esk (S s : Mem) (sp q : Nat) (ch : Int) : Nat → Mem
  | 0 => s
  | k + 1 => if k ≠ sp ∧ ((S 3 k - S 3 sp).natAbs : Int) ≤ S 0 3 then sln (esk S s sp q ch k) k q (ln (esk S s sp q ch k) k q + ch) else esk S s sp q ch k
def esp (S s : Mem) (h : Nat) : Mem :=
  let sp := (s 16 h).toNat; let q := (s 17 h).toNat
  let t := esk S s sp q (s 18 h * (if 0 < s 20 h then 1 else 2)) (S 0 7).toNat
  lve (wr t 8 q (min (t 8 q + 1) 9)) h
theorem esk_o {S s : Mem} {sp q : Nat} {ch : Int} {r j : Nat} (h : r ≠ 10) : ∀ k, esk S s sp q ch k r j = s r j
  | 0 => rfl
  | k + 1 => by
    rw [esk]
    split
    · rw [sln_o h, esk_o h k]
    · exact esk_o h k
/-! minutes -/
def pek (S s : Mem) : Nat → Mem × Int
  | 0 => (s, 0)
  | k + 1 =>
    if (pek S s k).1 16 k = -1 then pek S s k
    else if wp ((pek S s k).1 19 k - 1) = 0 then (esp S (wr (pek S s k).1 19 k (wp ((pek S s k).1 19 k - 1))) k, (pek S s k).2 + 1)
    else (wr (pek S s k).1 19 k (wp ((pek S s k).1 19 k - 1)), (pek S s k).2)
def pfk (S s : Mem) : Nat → Mem
  | 0 => s
  | k + 1 => if pfk S s k 16 k = -1 ∧ fsl S (pfk S s k) (pfk S s k 0 6) ≠ -1 then spk S (pfk S s k) k (fsl S (pfk S s k) (pfk S s k 0 6)).toNat else pfk S s k
def pm1 (S s : Mem) : Mem :=
  let t := wr s 0 5 (wp (s 0 5 + 1))
  if 0 < S 0 4 ∧ (wp (s 0 5 + 1)).tmod (S 0 4) = 0 then dry t else t
def pmn (S s : Mem) : Mem := pfk S (pek S (pm1 S s) (S 0 0).toNat).1 (S 0 0).toNat
def pme (S s : Mem) : Int := (pek S (pm1 S s) (S 0 0).toNat).2
def pms (S s : Mem) : Nat → Mem × Int
  | 0 => (s, 0)
  | k + 1 => (pmn S (pms S s k).1, (pms S s k).2 + pme S (pms S s k).1)
/-! votes, razors -/
def hv1 (s : Mem) (q : Nat) (w : Int) (k : Nat) : Mem := if vt s k q = 0 then s else wr s 3 k (wp (s 3 k - 1))
def hv2 (s : Mem) (v w : Int) (k : Nat) : Mem := if v = w ∧ 0 < s 2 k then wr (wr s 2 k (wp (s 2 k - 1))) 0 7 (wp (s 0 7 + 1)) else s
def hvk (s : Mem) (q : Nat) (w : Int) : Nat → Mem
  | 0 => s
  | k + 1 => hv2 (hv1 (hvk s q w k) q w k) (vt (hvk s q w k) k q) w k
def hvo (S s : Mem) (q : Nat) : Mem :=
  let t := clo (hvk s q (if 0 < mgn S s q then 1 else -1) (S 0 7).toNat) q (if 0 < mgn S s q then 1 else 2)
  wr t 0 8 (wp (t 0 8 + 1))
def shp5 (s : Mem) (m : Nat) : Mem :=
  let t := wr (wr s 2 m (s 2 m - 2)) 3 m 5
  wr t 0 10 (wp (t 0 10 + 1))
def trn (S s : Mem) (q : Nat) (k : Nat) : Prop := (0 < mgn S s q - 2 * vt s k q * S 2 k) ≠ (0 < mgn S s q)
def ltk (S s : Mem) (q : Nat) : Nat → Int × Int
  | 0 => (-1, 0)
  | k + 1 => if (decide (0 < mgn S s q - 2 * vt s k q * S 2 k) != decide (0 < mgn S s q)) = true ∧ ((ltk S s q k).1 = -1 ∨ S 2 k < (ltk S s q k).2) then ((k : Int), S 2 k) else ltk S s q k
def reb (s : Mem) (h : Nat) : Mem :=
  let t := wr s 20 h 1
  wr t 0 9 (wp (t 0 9 + 1))
/-! what holds of a setup, and of a chamber -/
def wfS (S : Mem) : Prop := 1 ≤ S 0 0 ∧ S 0 0 ≤ 4 ∧ 0 ≤ S 0 1 ∧ S 0 1 ≤ 5 ∧ 1 ≤ S 0 2 ∧ S 0 2 ≤ 20 ∧ 0 ≤ S 0 3 ∧ S 0 3 ≤ 20 ∧ 2 ≤ S 0 4 ∧ S 0 4 ≤ 30 ∧ 0 ≤ S 0 5 ∧ S 0 5 ≤ 9 ∧ 0 ≤ S 0 6 ∧ S 0 6 ≤ 12 ∧ 1 ≤ S 0 7 ∧ S 0 7 ≤ 12 ∧
  ∀ m : Nat, (m : Int) < S 0 7 → 1 ≤ S 2 m ∧ S 2 m ≤ 9 ∧ 0 ≤ S 3 m ∧ S 3 m ≤ 20 ∧ 0 ≤ S 4 m ∧ S 4 m ≤ 99
def wfC (S s : Mem) : Prop := (0 ≤ s 5 0 ∧ s 5 0 ≤ 16 ∧ 0 ≤ s 11 0 ∧ s 11 0 ≤ S 0 7 ∧ 0 ≤ s 0 6 ∧ s 0 6 ≤ 3 ∧ mrs s ≤ S 0 1) ∧
  (∀ m : Nat, (m : Int) < S 0 7 → 0 ≤ s 2 m ∧ s 2 m ≤ 99 ∧ 0 ≤ s 3 m ∧ s 3 m ≤ 5) ∧
  (∀ q : Nat, (q : Int) < s 5 0 → 0 ≤ s 6 q ∧ s 6 q < S 0 7 ∧ 0 ≤ s 7 q ∧ s 7 q ≤ 3 ∧ 0 ≤ s 8 q ∧ s 8 q ≤ 9 ∧ -1 ≤ s 9 q ∧ s 9 q ≤ 1 ∧ ∀ m : Nat, (m : Int) < S 0 7 → -20 ≤ ln s m q ∧ ln s m q ≤ 20) ∧
  (∀ r : Nat, (r : Int) < s 11 0 → 0 ≤ s 12 r ∧ s 12 r < S 0 7 ∧ 0 ≤ s 13 r ∧ s 13 r < s 5 0 ∧ (s 14 r = 1 ∨ s 14 r = -1)) ∧
  (∀ r k : Nat, (r : Int) < s 11 0 → (k : Int) < s 11 0 → s 12 r = s 12 k → r = k) ∧
  (∀ h : Nat, h < 4 → (s 16 h = -1 ∧ s 19 h = 0 ∧ s 20 h = 0) ∨ ((h : Int) < S 0 0 ∧ 0 ≤ s 16 h ∧ s 16 h < S 0 7 ∧ 0 ≤ s 17 h ∧ s 17 h < s 5 0 ∧ (s 18 h = 1 ∨ s 18 h = -1) ∧ 1 ≤ s 19 h ∧ s 19 h ≤ 20 ∧ 0 ≤ s 20 h ∧ s 20 h ≤ 1))
/-! refusals -/
def rfMo (S s : Mem) (m x : Int) : Int := if 0 ≤ m ∧ m < S 0 7 then (if x < 0 ∨ 20 < x then 2 else if 16 ≤ s 5 0 then 3 else 0) else 1
def rfWd (s : Mem) (q : Int) : Int := if 0 ≤ q ∧ q < s 5 0 then (if opn s q ∧ ¬ spa s q then 0 else 3) else 1
def rfRq (S s : Mem) (m q : Int) : Int := if (0 ≤ m ∧ m < S 0 7) ∧ (0 ≤ q ∧ q < s 5 0) then (if opn s q ∧ plc s m = -1 ∧ tkn s m = -1 then 0 else 3) else 1
def rfRb (S s : Mem) (m h : Int) : Int := if (0 ≤ m ∧ m < S 0 7) ∧ (0 ≤ h ∧ h < S 0 0) then (if s 16 h.toNat ≠ -1 ∧ s 20 h.toNat ≤ 0 ∧ 0 < frm S s ∧ tkn s m = -1 ∧ ln s m.toNat (s 17 h.toNat).toNat * s 18 h.toNat < 0 then 0 else 3) else 1
def rfRk (r : Int) : Int := if r < 0 ∨ 3 < r then 1 else 0
def rfWt (s : Mem) (n : Int) : Int := if n < 1 ∨ 60 < n then 2 else if 9999 < wp (s 0 5 + n) then 3 else 0
def obo (S s : Mem) (q : Int) : Int := if opn s q then obs S s q.toNat else 1
def rfVt (S s : Mem) (q : Int) : Int := if 0 ≤ q ∧ q < s 5 0 then (if obo S s q = 0 then 0 else 3) else 1
def rfSh (S s : Mem) (m : Int) : Int := if 0 ≤ m ∧ m < S 0 7 then (if s 3 m.toNat = 5 ∨ s 2 m.toNat < 2 then 3 else 0) else 1
theorem vt_3 (s : Mem) (m q : Nat) : vt s m q = 0 ∨ vt s m q = 1 ∨ vt s m q = -1 := by unfold vt; (repeat' split) <;> omega
theorem plc_b {s : Mem} {m : Int} (h : 0 ≤ s 11 0) : -1 ≤ plc s m ∧ plc s m < s 11 0 ∨ plc s m = -1 := by
  rcases fnd_ge (p := fun r => s 12 r = m) (n := (s 11 0).toNat) with h1 | ⟨k, h1, h2, -⟩
  · exact Or.inr h1
  · left
    unfold plc
    omega
theorem tkn_b (s : Mem) (m : Int) : -1 ≤ tkn s m ∧ tkn s m < 4 := by
  rcases fnd_ge (p := fun h => s 16 h = m) (n := 4) with h1 | ⟨k, h1, h2, -⟩
  · unfold tkn; omega
  · unfold tkn; omega
/-! contradictions -/
def cdc (S s : Mem) (k : Nat) : Int := s 0 7 + 2 * s 0 10 + smf (fun m => s 2 m) k
def cdd (s : Mem) (k : Nat) : Int := smf (fun m => if plc s m ≠ -1 ∧ tkn s m ≠ -1 then 1 else 0) k
def cdv (s : Mem) (k : Nat) : Int := smf (fun q => if s 7 q = 1 ∨ s 7 q = 2 then 1 else 0) k
def cds (s : Mem) (k : Nat) : Int := smf (fun r => if opn s (s 13 r) then 0 else 1) k
theorem smf_b01 {f : Nat → Int} (h : ∀ k, f k = 0 ∨ f k = 1) : ∀ n : Nat, 0 ≤ smf f n ∧ smf f n ≤ n
  | 0 => by simp [smf]
  | n + 1 => by
    have h1 := smf_b01 h n
    have h2 := h n
    rw [smf]
    omega
