/-! THE MODEL'S ROW and a chamber -/
def nk : Nat → Int → Int
  | 0, _ => 0
  | k + 1, x => 27 * nk k (x / 32) + x % 32
def n27 (x : Int) : Int := nk 6 x
def sdm (d : Int) : Int := if d = 1 then 1 else 0
def lat (d : Int) : Int := if d = 0 then -1 else if d = 1 then 1 else 0
def rel (S s : Mem) (ν : Nat → Int) : Prop :=
  (ν 0 = S 0 0 ∧ ν 1 = S 0 1 ∧ ν 2 = S 0 2 ∧ ν 3 = S 0 3 ∧ ν 4 = S 0 4 ∧ ν 5 = S 0 5 ∧ ν 6 = S 0 6 ∧ ν 8 = S 0 7 ∧ ν 16 = smf (fun m => S 4 m) (S 0 7).toNat) ∧
  (ν 7 = s 0 5 ∧ ν 9 = s 5 0 ∧ ν 10 = s 0 6 ∧ ν 11 = s 11 0 ∧ ν 12 = s 0 7 ∧ ν 13 = s 0 8 ∧ ν 14 = s 0 9 ∧ ν 15 = s 0 10) ∧
  (∀ m : Nat, (m : Int) < S 0 7 → ν (18 + 6 * m + 0) = n27 (S 1 m) ∧ ν (18 + 6 * m + 1) = S 2 m ∧ ν (18 + 6 * m + 2) = S 3 m ∧ ν (18 + 6 * m + 3) = s 2 m ∧ ν (18 + 6 * m + 4) = s 3 m ∧ ν (18 + 6 * m + 5) = s 4 m) ∧
  (∀ q : Nat, (q : Int) < s 5 0 → (ν (90 + 5 * q + 0) = s 6 q ∧ ν (90 + 5 * q + 2) = s 8 q ∧ ν (90 + 5 * q + 3) = s 7 q ∧ ν (90 + 5 * q + 4) = lat (s 9 q)) ∧ ∀ m : Nat, (m : Int) < S 0 7 → ν (170 + 16 * m + q) = ln s m q) ∧
  (∀ h : Nat, (h : Int) < S 0 0 → ν (362 + 5 * h + 0) = s 16 h ∧ (s 16 h ≠ -1 → ν (362 + 5 * h + 1) = s 17 h ∧ ν (362 + 5 * h + 2) = sdm (s 18 h) ∧ ν (362 + 5 * h + 3) = s 19 h ∧ ν (362 + 5 * h + 4) = s 20 h)) ∧
  (∀ r : Nat, (r : Int) < s 11 0 → ν (382 + 3 * r + 0) = s 12 r ∧ ν (382 + 3 * r + 1) = s 13 r ∧ ν (382 + 3 * r + 2) = sdm (s 14 r))
section RelReads
variable {S s : Mem} {ν : Nat → Int}
theorem rlN (hr : rel S s ν) {m : Nat} (hm : (m : Int) < S 0 7) : ν (18 + 6 * m + 0) = n27 (S 1 m) := (hr.2.2.1 m hm).1
theorem rlW (hr : rel S s ν) {m : Nat} (hm : (m : Int) < S 0 7) : ν (18 + 6 * m + 1) = S 2 m := (hr.2.2.1 m hm).2.1
theorem rlP (hr : rel S s ν) {m : Nat} (hm : (m : Int) < S 0 7) : ν (18 + 6 * m + 2) = S 3 m := (hr.2.2.1 m hm).2.2.1
theorem rlC (hr : rel S s ν) {m : Nat} (hm : (m : Int) < S 0 7) : ν (18 + 6 * m + 3) = s 2 m := (hr.2.2.1 m hm).2.2.2.1
theorem rlR (hr : rel S s ν) {m : Nat} (hm : (m : Int) < S 0 7) : ν (18 + 6 * m + 4) = s 3 m := (hr.2.2.1 m hm).2.2.2.2.1
theorem rlT (hr : rel S s ν) {m : Nat} (hm : (m : Int) < S 0 7) : ν (18 + 6 * m + 5) = s 4 m := (hr.2.2.1 m hm).2.2.2.2.2
theorem rqP (hr : rel S s ν) {q : Nat} (hq : (q : Int) < s 5 0) : ν (90 + 5 * q + 0) = s 6 q := (hr.2.2.2.1 q hq).1.1
theorem rqL (hr : rel S s ν) {q : Nat} (hq : (q : Int) < s 5 0) : ν (90 + 5 * q + 2) = s 8 q := (hr.2.2.2.1 q hq).1.2.1
theorem rqS (hr : rel S s ν) {q : Nat} (hq : (q : Int) < s 5 0) : ν (90 + 5 * q + 3) = s 7 q := (hr.2.2.2.1 q hq).1.2.2.1
theorem rqT (hr : rel S s ν) {q : Nat} (hq : (q : Int) < s 5 0) : ν (90 + 5 * q + 4) = lat (s 9 q) := (hr.2.2.2.1 q hq).1.2.2.2
theorem rqN (hr : rel S s ν) {q : Nat} (hq : (q : Int) < s 5 0) {m : Nat} (hm : (m : Int) < S 0 7) : ν (170 + 16 * m + q) = ln s m q := (hr.2.2.2.1 q hq).2 m hm
theorem rhB (hr : rel S s ν) {h : Nat} (hh : (h : Int) < S 0 0) : ν (362 + 5 * h + 0) = s 16 h := (hr.2.2.2.2.1 h hh).1
theorem rhA (hr : rel S s ν) {h : Nat} (hh : (h : Int) < S 0 0) (ho : s 16 h ≠ -1) : ν (362 + 5 * h + 1) = s 17 h := ((hr.2.2.2.2.1 h hh).2 ho).1
theorem rhS (hr : rel S s ν) {h : Nat} (hh : (h : Int) < S 0 0) (ho : s 16 h ≠ -1) : ν (362 + 5 * h + 2) = sdm (s 18 h) := ((hr.2.2.2.2.1 h hh).2 ho).2.1
theorem rhR (hr : rel S s ν) {h : Nat} (hh : (h : Int) < S 0 0) (ho : s 16 h ≠ -1) : ν (362 + 5 * h + 3) = s 19 h := ((hr.2.2.2.2.1 h hh).2 ho).2.2.1
theorem rhM (hr : rel S s ν) {h : Nat} (hh : (h : Int) < S 0 0) (ho : s 16 h ≠ -1) : ν (362 + 5 * h + 4) = s 20 h := ((hr.2.2.2.2.1 h hh).2 ho).2.2.2
theorem rrB (hr : rel S s ν) {r : Nat} (h : (r : Int) < s 11 0) : ν (382 + 3 * r + 0) = s 12 r := (hr.2.2.2.2.2 r h).1
theorem rrA (hr : rel S s ν) {r : Nat} (h : (r : Int) < s 11 0) : ν (382 + 3 * r + 1) = s 13 r := (hr.2.2.2.2.2 r h).2.1
theorem rrS (hr : rel S s ν) {r : Nat} (h : (r : Int) < s 11 0) : ν (382 + 3 * r + 2) = sdm (s 14 r) := (hr.2.2.2.2.2 r h).2.2
theorem rs0 (hr : rel S s ν) : ν 0 = S 0 0 := hr.1.1
theorem rs1 (hr : rel S s ν) : ν 1 = S 0 1 := hr.1.2.1
theorem rs2 (hr : rel S s ν) : ν 2 = S 0 2 := hr.1.2.2.1
theorem rs3 (hr : rel S s ν) : ν 3 = S 0 3 := hr.1.2.2.2.1
theorem rs4 (hr : rel S s ν) : ν 4 = S 0 4 := hr.1.2.2.2.2.1
theorem rs5 (hr : rel S s ν) : ν 5 = S 0 5 := hr.1.2.2.2.2.2.1
theorem rs6 (hr : rel S s ν) : ν 6 = S 0 6 := hr.1.2.2.2.2.2.2.1
theorem rs8 (hr : rel S s ν) : ν 8 = S 0 7 := hr.1.2.2.2.2.2.2.2.1
theorem rs16 (hr : rel S s ν) : ν 16 = smf (fun m => S 4 m) (S 0 7).toNat := hr.1.2.2.2.2.2.2.2.2
theorem rs7 (hr : rel S s ν) : ν 7 = s 0 5 := hr.2.1.1
theorem rs9 (hr : rel S s ν) : ν 9 = s 5 0 := hr.2.1.2.1
theorem rs10 (hr : rel S s ν) : ν 10 = s 0 6 := hr.2.1.2.2.1
theorem rs11 (hr : rel S s ν) : ν 11 = s 11 0 := hr.2.1.2.2.2.1
theorem rs12 (hr : rel S s ν) : ν 12 = s 0 7 := hr.2.1.2.2.2.2.1
theorem rs13 (hr : rel S s ν) : ν 13 = s 0 8 := hr.2.1.2.2.2.2.2.1
theorem rs14 (hr : rel S s ν) : ν 14 = s 0 9 := hr.2.1.2.2.2.2.2.2.1
theorem rs15 (hr : rel S s ν) : ν 15 = s 0 10 := hr.2.1.2.2.2.2.2.2.2
end RelReads
theorem rel_sln0 {S s : Mem} {ν : Nat → Int} {m q : Nat} {v : Int} (hm : (m : Int) < S 0 7) (hq : (q : Int) < s 5 0) (hr : rel S s ν) (n12 : S 0 7 ≤ 12) (c4 : S 0 0 ≤ 4) (q16 : s 5 0 ≤ 16) (r12 : s 11 0 ≤ 12) : rel S (wr s 10 (q * 12 + m) v) (wv ν (170 + 16 * m + q) (v)) := by
  obtain ⟨⟨a0, a1, a2, a3, a4, a5, a6, a7, a8⟩, ⟨b0, b1, b2, b3, b4, b5, b6, b7⟩, b, c, d, e⟩ := hr
  refine ⟨⟨by rw [wv_n (by omega)]; exact a0, by rw [wv_n (by omega)]; exact a1, by rw [wv_n (by omega)]; exact a2, by rw [wv_n (by omega)]; exact a3, by rw [wv_n (by omega)]; exact a4, by rw [wv_n (by omega)]; exact a5, by rw [wv_n (by omega)]; exact a6, by rw [wv_n (by omega)]; exact a7, by rw [wv_n (by omega)]; exact a8⟩, ⟨?_, ?_, ?_, ?_, ?_, ?_, ?_, ?_⟩, fun i hi => ?_, fun i hi => ?_, fun i hi => ?_, fun i hi => ?_⟩
  · rw [wv_n (by omega), wr_na (by decide)]; exact b0
  · rw [wv_n (by omega), wr_na (by decide)]; exact b1
  · rw [wv_n (by omega), wr_na (by decide)]; exact b2
  · rw [wv_n (by omega), wr_na (by decide)]; exact b3
  · rw [wv_n (by omega), wr_na (by decide)]; exact b4
  · rw [wv_n (by omega), wr_na (by decide)]; exact b5
  · rw [wv_n (by omega), wr_na (by decide)]; exact b6
  · rw [wv_n (by omega), wr_na (by decide)]; exact b7
  · exact ⟨by rw [wv_n (by omega)]; exact (b i hi).1, by rw [wv_n (by omega)]; exact (b i hi).2.1, by rw [wv_n (by omega)]; exact (b i hi).2.2.1, by rw [wv_n (by omega), wr_na (by decide)]; exact (b i hi).2.2.2.1, by rw [wv_n (by omega), wr_na (by decide)]; exact (b i hi).2.2.2.2.1, by rw [wv_n (by omega), wr_na (by decide)]; exact (b i hi).2.2.2.2.2⟩
  · rw [wr_na (by decide)] at hi; refine ⟨⟨by rw [wv_n (by omega), wr_na (by decide)]; exact (c i hi).1.1, by rw [wv_n (by omega), wr_na (by decide)]; exact (c i hi).1.2.1, by rw [wv_n (by omega), wr_na (by decide)]; exact (c i hi).1.2.2.1, by rw [wv_n (by omega), wr_na (by decide)]; exact (c i hi).1.2.2.2⟩, fun x hx => ?_⟩
    have hl := (c i hi).2 x hx
    by_cases g : i = q ∧ x = m
    · rw [g.1, g.2, wv_s]; unfold ln; rw [wr_s]
    · rw [wv_n (by omega)]; unfold ln at *; rw [wr_ni (by omega)]; exact hl
  · refine ⟨by rw [wv_n (by omega), wr_na (by decide)]; exact (d i hi).1, fun w => ?_⟩
    rw [wr_na (by decide)] at w
    exact ⟨by rw [wv_n (by omega), wr_na (by decide)]; exact ((d i hi).2 w).1, by rw [wv_n (by omega), wr_na (by decide)]; exact ((d i hi).2 w).2.1, by rw [wv_n (by omega), wr_na (by decide)]; exact ((d i hi).2 w).2.2.1, by rw [wv_n (by omega), wr_na (by decide)]; exact ((d i hi).2 w).2.2.2⟩
  · rw [wr_na (by decide)] at hi; exact ⟨by rw [wv_n (by omega), wr_na (by decide)]; exact (e i hi).1, by rw [wv_n (by omega), wr_na (by decide)]; exact (e i hi).2.1, by rw [wv_n (by omega), wr_na (by decide)]; exact (e i hi).2.2⟩
theorem rel_sln {S s : Mem} {ν : Nat → Int} {m q : Nat} {v : Int} (hm : (m : Int) < S 0 7) (hq : (q : Int) < s 5 0) (hr : rel S s ν) (n12 : S 0 7 ≤ 12) (c4 : S 0 0 ≤ 4) (q16 : s 5 0 ≤ 16) (r12 : s 11 0 ≤ 12) : rel S (sln s m q v) (wv ν (170 + 16 * m + q) (clp v)) := rel_sln0 hm hq hr n12 c4 q16 r12
theorem rel_lath {S s : Mem} {ν : Nat → Int} {q : Nat} {v : Int} (hq : (q : Int) < s 5 0) (hr : rel S s ν) (n12 : S 0 7 ≤ 12) (c4 : S 0 0 ≤ 4) (q16 : s 5 0 ≤ 16) (r12 : s 11 0 ≤ 12) : rel S (wr s 8 q v) (wv ν (90 + 5 * q + 2) (v)) := by
  obtain ⟨⟨a0, a1, a2, a3, a4, a5, a6, a7, a8⟩, ⟨b0, b1, b2, b3, b4, b5, b6, b7⟩, b, c, d, e⟩ := hr
  refine ⟨⟨by rw [wv_n (by omega)]; exact a0, by rw [wv_n (by omega)]; exact a1, by rw [wv_n (by omega)]; exact a2, by rw [wv_n (by omega)]; exact a3, by rw [wv_n (by omega)]; exact a4, by rw [wv_n (by omega)]; exact a5, by rw [wv_n (by omega)]; exact a6, by rw [wv_n (by omega)]; exact a7, by rw [wv_n (by omega)]; exact a8⟩, ⟨?_, ?_, ?_, ?_, ?_, ?_, ?_, ?_⟩, fun i hi => ?_, fun i hi => ?_, fun i hi => ?_, fun i hi => ?_⟩
  · rw [wv_n (by omega), wr_na (by decide)]; exact b0
  · rw [wv_n (by omega), wr_na (by decide)]; exact b1
  · rw [wv_n (by omega), wr_na (by decide)]; exact b2
  · rw [wv_n (by omega), wr_na (by decide)]; exact b3
  · rw [wv_n (by omega), wr_na (by decide)]; exact b4
  · rw [wv_n (by omega), wr_na (by decide)]; exact b5
  · rw [wv_n (by omega), wr_na (by decide)]; exact b6
  · rw [wv_n (by omega), wr_na (by decide)]; exact b7
  · exact ⟨by rw [wv_n (by omega)]; exact (b i hi).1, by rw [wv_n (by omega)]; exact (b i hi).2.1, by rw [wv_n (by omega)]; exact (b i hi).2.2.1, by rw [wv_n (by omega), wr_na (by decide)]; exact (b i hi).2.2.2.1, by rw [wv_n (by omega), wr_na (by decide)]; exact (b i hi).2.2.2.2.1, by rw [wv_n (by omega), wr_na (by decide)]; exact (b i hi).2.2.2.2.2⟩
  · rw [wr_na (by decide)] at hi; refine ⟨⟨by rw [wv_n (by omega), wr_na (by decide)]; exact (c i hi).1.1, (if g : i = q then (by subst g; rw [wv_s, wr_s]) else (by rw [wv_n (by omega), wr_ni g]; exact (c i hi).1.2.1)), by rw [wv_n (by omega), wr_na (by decide)]; exact (c i hi).1.2.2.1, by rw [wv_n (by omega), wr_na (by decide)]; exact (c i hi).1.2.2.2⟩, fun x hx => ?_⟩
    rw [wv_n (by omega)]; unfold ln at *; rw [wr_na (by decide)]; exact (c i hi).2 x hx
  · refine ⟨by rw [wv_n (by omega), wr_na (by decide)]; exact (d i hi).1, fun w => ?_⟩
    rw [wr_na (by decide)] at w
    exact ⟨by rw [wv_n (by omega), wr_na (by decide)]; exact ((d i hi).2 w).1, by rw [wv_n (by omega), wr_na (by decide)]; exact ((d i hi).2 w).2.1, by rw [wv_n (by omega), wr_na (by decide)]; exact ((d i hi).2 w).2.2.1, by rw [wv_n (by omega), wr_na (by decide)]; exact ((d i hi).2 w).2.2.2⟩
  · rw [wr_na (by decide)] at hi; exact ⟨by rw [wv_n (by omega), wr_na (by decide)]; exact (e i hi).1, by rw [wv_n (by omega), wr_na (by decide)]; exact (e i hi).2.1, by rw [wv_n (by omega), wr_na (by decide)]; exact (e i hi).2.2⟩
theorem rel_stat {S s : Mem} {ν : Nat → Int} {q : Nat} {v : Int} (hq : (q : Int) < s 5 0) (hr : rel S s ν) (n12 : S 0 7 ≤ 12) (c4 : S 0 0 ≤ 4) (q16 : s 5 0 ≤ 16) (r12 : s 11 0 ≤ 12) : rel S (wr s 7 q v) (wv ν (90 + 5 * q + 3) (v)) := by
  obtain ⟨⟨a0, a1, a2, a3, a4, a5, a6, a7, a8⟩, ⟨b0, b1, b2, b3, b4, b5, b6, b7⟩, b, c, d, e⟩ := hr
  refine ⟨⟨by rw [wv_n (by omega)]; exact a0, by rw [wv_n (by omega)]; exact a1, by rw [wv_n (by omega)]; exact a2, by rw [wv_n (by omega)]; exact a3, by rw [wv_n (by omega)]; exact a4, by rw [wv_n (by omega)]; exact a5, by rw [wv_n (by omega)]; exact a6, by rw [wv_n (by omega)]; exact a7, by rw [wv_n (by omega)]; exact a8⟩, ⟨?_, ?_, ?_, ?_, ?_, ?_, ?_, ?_⟩, fun i hi => ?_, fun i hi => ?_, fun i hi => ?_, fun i hi => ?_⟩
  · rw [wv_n (by omega), wr_na (by decide)]; exact b0
  · rw [wv_n (by omega), wr_na (by decide)]; exact b1
  · rw [wv_n (by omega), wr_na (by decide)]; exact b2
  · rw [wv_n (by omega), wr_na (by decide)]; exact b3
  · rw [wv_n (by omega), wr_na (by decide)]; exact b4
  · rw [wv_n (by omega), wr_na (by decide)]; exact b5
  · rw [wv_n (by omega), wr_na (by decide)]; exact b6
  · rw [wv_n (by omega), wr_na (by decide)]; exact b7
  · exact ⟨by rw [wv_n (by omega)]; exact (b i hi).1, by rw [wv_n (by omega)]; exact (b i hi).2.1, by rw [wv_n (by omega)]; exact (b i hi).2.2.1, by rw [wv_n (by omega), wr_na (by decide)]; exact (b i hi).2.2.2.1, by rw [wv_n (by omega), wr_na (by decide)]; exact (b i hi).2.2.2.2.1, by rw [wv_n (by omega), wr_na (by decide)]; exact (b i hi).2.2.2.2.2⟩
  · rw [wr_na (by decide)] at hi; refine ⟨⟨by rw [wv_n (by omega), wr_na (by decide)]; exact (c i hi).1.1, by rw [wv_n (by omega), wr_na (by decide)]; exact (c i hi).1.2.1, (if g : i = q then (by subst g; rw [wv_s, wr_s]) else (by rw [wv_n (by omega), wr_ni g]; exact (c i hi).1.2.2.1)), by rw [wv_n (by omega), wr_na (by decide)]; exact (c i hi).1.2.2.2⟩, fun x hx => ?_⟩
    rw [wv_n (by omega)]; unfold ln at *; rw [wr_na (by decide)]; exact (c i hi).2 x hx
  · refine ⟨by rw [wv_n (by omega), wr_na (by decide)]; exact (d i hi).1, fun w => ?_⟩
    rw [wr_na (by decide)] at w
    exact ⟨by rw [wv_n (by omega), wr_na (by decide)]; exact ((d i hi).2 w).1, by rw [wv_n (by omega), wr_na (by decide)]; exact ((d i hi).2 w).2.1, by rw [wv_n (by omega), wr_na (by decide)]; exact ((d i hi).2 w).2.2.1, by rw [wv_n (by omega), wr_na (by decide)]; exact ((d i hi).2 w).2.2.2⟩
  · rw [wr_na (by decide)] at hi; exact ⟨by rw [wv_n (by omega), wr_na (by decide)]; exact (e i hi).1, by rw [wv_n (by omega), wr_na (by decide)]; exact (e i hi).2.1, by rw [wv_n (by omega), wr_na (by decide)]; exact (e i hi).2.2⟩
theorem rel_min {S s : Mem} {ν : Nat → Int} {v : Int} (hr : rel S s ν) (n12 : S 0 7 ≤ 12) (c4 : S 0 0 ≤ 4) (q16 : s 5 0 ≤ 16) (r12 : s 11 0 ≤ 12) : rel S (wr s 0 5 v) (wv ν (7) (v)) := by
  obtain ⟨⟨a0, a1, a2, a3, a4, a5, a6, a7, a8⟩, ⟨b0, b1, b2, b3, b4, b5, b6, b7⟩, b, c, d, e⟩ := hr
  refine ⟨⟨by rw [wv_n (by omega)]; exact a0, by rw [wv_n (by omega)]; exact a1, by rw [wv_n (by omega)]; exact a2, by rw [wv_n (by omega)]; exact a3, by rw [wv_n (by omega)]; exact a4, by rw [wv_n (by omega)]; exact a5, by rw [wv_n (by omega)]; exact a6, by rw [wv_n (by omega)]; exact a7, by rw [wv_n (by omega)]; exact a8⟩, ⟨?_, ?_, ?_, ?_, ?_, ?_, ?_, ?_⟩, fun i hi => ?_, fun i hi => ?_, fun i hi => ?_, fun i hi => ?_⟩
  · rw [wv_s, wr_s]
  · rw [wv_n (by omega), wr_na (by decide)]; exact b1
  · rw [wv_n (by omega), wr_ni (by decide)]; exact b2
  · rw [wv_n (by omega), wr_na (by decide)]; exact b3
  · rw [wv_n (by omega), wr_ni (by decide)]; exact b4
  · rw [wv_n (by omega), wr_ni (by decide)]; exact b5
  · rw [wv_n (by omega), wr_ni (by decide)]; exact b6
  · rw [wv_n (by omega), wr_ni (by decide)]; exact b7
  · exact ⟨by rw [wv_n (by omega)]; exact (b i hi).1, by rw [wv_n (by omega)]; exact (b i hi).2.1, by rw [wv_n (by omega)]; exact (b i hi).2.2.1, by rw [wv_n (by omega), wr_na (by decide)]; exact (b i hi).2.2.2.1, by rw [wv_n (by omega), wr_na (by decide)]; exact (b i hi).2.2.2.2.1, by rw [wv_n (by omega), wr_na (by decide)]; exact (b i hi).2.2.2.2.2⟩
  · rw [wr_na (by decide)] at hi; refine ⟨⟨by rw [wv_n (by omega), wr_na (by decide)]; exact (c i hi).1.1, by rw [wv_n (by omega), wr_na (by decide)]; exact (c i hi).1.2.1, by rw [wv_n (by omega), wr_na (by decide)]; exact (c i hi).1.2.2.1, by rw [wv_n (by omega), wr_na (by decide)]; exact (c i hi).1.2.2.2⟩, fun x hx => ?_⟩
    rw [wv_n (by omega)]; unfold ln at *; rw [wr_na (by decide)]; exact (c i hi).2 x hx
  · refine ⟨by rw [wv_n (by omega), wr_na (by decide)]; exact (d i hi).1, fun w => ?_⟩
    rw [wr_na (by decide)] at w
    exact ⟨by rw [wv_n (by omega), wr_na (by decide)]; exact ((d i hi).2 w).1, by rw [wv_n (by omega), wr_na (by decide)]; exact ((d i hi).2 w).2.1, by rw [wv_n (by omega), wr_na (by decide)]; exact ((d i hi).2 w).2.2.1, by rw [wv_n (by omega), wr_na (by decide)]; exact ((d i hi).2 w).2.2.2⟩
  · rw [wr_na (by decide)] at hi; exact ⟨by rw [wv_n (by omega), wr_na (by decide)]; exact (e i hi).1, by rw [wv_n (by omega), wr_na (by decide)]; exact (e i hi).2.1, by rw [wv_n (by omega), wr_na (by decide)]; exact (e i hi).2.2⟩
theorem rel_rkg {S s : Mem} {ν : Nat → Int} {v : Int} (hr : rel S s ν) (n12 : S 0 7 ≤ 12) (c4 : S 0 0 ≤ 4) (q16 : s 5 0 ≤ 16) (r12 : s 11 0 ≤ 12) : rel S (wr s 0 6 v) (wv ν (10) (v)) := by
  obtain ⟨⟨a0, a1, a2, a3, a4, a5, a6, a7, a8⟩, ⟨b0, b1, b2, b3, b4, b5, b6, b7⟩, b, c, d, e⟩ := hr
  refine ⟨⟨by rw [wv_n (by omega)]; exact a0, by rw [wv_n (by omega)]; exact a1, by rw [wv_n (by omega)]; exact a2, by rw [wv_n (by omega)]; exact a3, by rw [wv_n (by omega)]; exact a4, by rw [wv_n (by omega)]; exact a5, by rw [wv_n (by omega)]; exact a6, by rw [wv_n (by omega)]; exact a7, by rw [wv_n (by omega)]; exact a8⟩, ⟨?_, ?_, ?_, ?_, ?_, ?_, ?_, ?_⟩, fun i hi => ?_, fun i hi => ?_, fun i hi => ?_, fun i hi => ?_⟩
  · rw [wv_n (by omega), wr_ni (by decide)]; exact b0
  · rw [wv_n (by omega), wr_na (by decide)]; exact b1
  · rw [wv_s, wr_s]
  · rw [wv_n (by omega), wr_na (by decide)]; exact b3
  · rw [wv_n (by omega), wr_ni (by decide)]; exact b4
  · rw [wv_n (by omega), wr_ni (by decide)]; exact b5
  · rw [wv_n (by omega), wr_ni (by decide)]; exact b6
  · rw [wv_n (by omega), wr_ni (by decide)]; exact b7
  · exact ⟨by rw [wv_n (by omega)]; exact (b i hi).1, by rw [wv_n (by omega)]; exact (b i hi).2.1, by rw [wv_n (by omega)]; exact (b i hi).2.2.1, by rw [wv_n (by omega), wr_na (by decide)]; exact (b i hi).2.2.2.1, by rw [wv_n (by omega), wr_na (by decide)]; exact (b i hi).2.2.2.2.1, by rw [wv_n (by omega), wr_na (by decide)]; exact (b i hi).2.2.2.2.2⟩
  · rw [wr_na (by decide)] at hi; refine ⟨⟨by rw [wv_n (by omega), wr_na (by decide)]; exact (c i hi).1.1, by rw [wv_n (by omega), wr_na (by decide)]; exact (c i hi).1.2.1, by rw [wv_n (by omega), wr_na (by decide)]; exact (c i hi).1.2.2.1, by rw [wv_n (by omega), wr_na (by decide)]; exact (c i hi).1.2.2.2⟩, fun x hx => ?_⟩
    rw [wv_n (by omega)]; unfold ln at *; rw [wr_na (by decide)]; exact (c i hi).2 x hx
  · refine ⟨by rw [wv_n (by omega), wr_na (by decide)]; exact (d i hi).1, fun w => ?_⟩
    rw [wr_na (by decide)] at w
    exact ⟨by rw [wv_n (by omega), wr_na (by decide)]; exact ((d i hi).2 w).1, by rw [wv_n (by omega), wr_na (by decide)]; exact ((d i hi).2 w).2.1, by rw [wv_n (by omega), wr_na (by decide)]; exact ((d i hi).2 w).2.2.1, by rw [wv_n (by omega), wr_na (by decide)]; exact ((d i hi).2 w).2.2.2⟩
  · rw [wr_na (by decide)] at hi; exact ⟨by rw [wv_n (by omega), wr_na (by decide)]; exact (e i hi).1, by rw [wv_n (by omega), wr_na (by decide)]; exact (e i hi).2.1, by rw [wv_n (by omega), wr_na (by decide)]; exact (e i hi).2.2⟩
theorem rel_tip {S s : Mem} {ν : Nat → Int} {v : Int} (hr : rel S s ν) (n12 : S 0 7 ≤ 12) (c4 : S 0 0 ≤ 4) (q16 : s 5 0 ≤ 16) (r12 : s 11 0 ≤ 12) : rel S (wr s 0 7 v) (wv ν (12) (v)) := by
  obtain ⟨⟨a0, a1, a2, a3, a4, a5, a6, a7, a8⟩, ⟨b0, b1, b2, b3, b4, b5, b6, b7⟩, b, c, d, e⟩ := hr
  refine ⟨⟨by rw [wv_n (by omega)]; exact a0, by rw [wv_n (by omega)]; exact a1, by rw [wv_n (by omega)]; exact a2, by rw [wv_n (by omega)]; exact a3, by rw [wv_n (by omega)]; exact a4, by rw [wv_n (by omega)]; exact a5, by rw [wv_n (by omega)]; exact a6, by rw [wv_n (by omega)]; exact a7, by rw [wv_n (by omega)]; exact a8⟩, ⟨?_, ?_, ?_, ?_, ?_, ?_, ?_, ?_⟩, fun i hi => ?_, fun i hi => ?_, fun i hi => ?_, fun i hi => ?_⟩
  · rw [wv_n (by omega), wr_ni (by decide)]; exact b0
  · rw [wv_n (by omega), wr_na (by decide)]; exact b1
  · rw [wv_n (by omega), wr_ni (by decide)]; exact b2
  · rw [wv_n (by omega), wr_na (by decide)]; exact b3
  · rw [wv_s, wr_s]
  · rw [wv_n (by omega), wr_ni (by decide)]; exact b5
  · rw [wv_n (by omega), wr_ni (by decide)]; exact b6
  · rw [wv_n (by omega), wr_ni (by decide)]; exact b7
  · exact ⟨by rw [wv_n (by omega)]; exact (b i hi).1, by rw [wv_n (by omega)]; exact (b i hi).2.1, by rw [wv_n (by omega)]; exact (b i hi).2.2.1, by rw [wv_n (by omega), wr_na (by decide)]; exact (b i hi).2.2.2.1, by rw [wv_n (by omega), wr_na (by decide)]; exact (b i hi).2.2.2.2.1, by rw [wv_n (by omega), wr_na (by decide)]; exact (b i hi).2.2.2.2.2⟩
  · rw [wr_na (by decide)] at hi; refine ⟨⟨by rw [wv_n (by omega), wr_na (by decide)]; exact (c i hi).1.1, by rw [wv_n (by omega), wr_na (by decide)]; exact (c i hi).1.2.1, by rw [wv_n (by omega), wr_na (by decide)]; exact (c i hi).1.2.2.1, by rw [wv_n (by omega), wr_na (by decide)]; exact (c i hi).1.2.2.2⟩, fun x hx => ?_⟩
    rw [wv_n (by omega)]; unfold ln at *; rw [wr_na (by decide)]; exact (c i hi).2 x hx
  · refine ⟨by rw [wv_n (by omega), wr_na (by decide)]; exact (d i hi).1, fun w => ?_⟩
    rw [wr_na (by decide)] at w
    exact ⟨by rw [wv_n (by omega), wr_na (by decide)]; exact ((d i hi).2 w).1, by rw [wv_n (by omega), wr_na (by decide)]; exact ((d i hi).2 w).2.1, by rw [wv_n (by omega), wr_na (by decide)]; exact ((d i hi).2 w).2.2.1, by rw [wv_n (by omega), wr_na (by decide)]; exact ((d i hi).2 w).2.2.2⟩
  · rw [wr_na (by decide)] at hi; exact ⟨by rw [wv_n (by omega), wr_na (by decide)]; exact (e i hi).1, by rw [wv_n (by omega), wr_na (by decide)]; exact (e i hi).2.1, by rw [wv_n (by omega), wr_na (by decide)]; exact (e i hi).2.2⟩
theorem rel_vts {S s : Mem} {ν : Nat → Int} {v : Int} (hr : rel S s ν) (n12 : S 0 7 ≤ 12) (c4 : S 0 0 ≤ 4) (q16 : s 5 0 ≤ 16) (r12 : s 11 0 ≤ 12) : rel S (wr s 0 8 v) (wv ν (13) (v)) := by
  obtain ⟨⟨a0, a1, a2, a3, a4, a5, a6, a7, a8⟩, ⟨b0, b1, b2, b3, b4, b5, b6, b7⟩, b, c, d, e⟩ := hr
  refine ⟨⟨by rw [wv_n (by omega)]; exact a0, by rw [wv_n (by omega)]; exact a1, by rw [wv_n (by omega)]; exact a2, by rw [wv_n (by omega)]; exact a3, by rw [wv_n (by omega)]; exact a4, by rw [wv_n (by omega)]; exact a5, by rw [wv_n (by omega)]; exact a6, by rw [wv_n (by omega)]; exact a7, by rw [wv_n (by omega)]; exact a8⟩, ⟨?_, ?_, ?_, ?_, ?_, ?_, ?_, ?_⟩, fun i hi => ?_, fun i hi => ?_, fun i hi => ?_, fun i hi => ?_⟩
  · rw [wv_n (by omega), wr_ni (by decide)]; exact b0
  · rw [wv_n (by omega), wr_na (by decide)]; exact b1
  · rw [wv_n (by omega), wr_ni (by decide)]; exact b2
  · rw [wv_n (by omega), wr_na (by decide)]; exact b3
  · rw [wv_n (by omega), wr_ni (by decide)]; exact b4
  · rw [wv_s, wr_s]
  · rw [wv_n (by omega), wr_ni (by decide)]; exact b6
  · rw [wv_n (by omega), wr_ni (by decide)]; exact b7
  · exact ⟨by rw [wv_n (by omega)]; exact (b i hi).1, by rw [wv_n (by omega)]; exact (b i hi).2.1, by rw [wv_n (by omega)]; exact (b i hi).2.2.1, by rw [wv_n (by omega), wr_na (by decide)]; exact (b i hi).2.2.2.1, by rw [wv_n (by omega), wr_na (by decide)]; exact (b i hi).2.2.2.2.1, by rw [wv_n (by omega), wr_na (by decide)]; exact (b i hi).2.2.2.2.2⟩
  · rw [wr_na (by decide)] at hi; refine ⟨⟨by rw [wv_n (by omega), wr_na (by decide)]; exact (c i hi).1.1, by rw [wv_n (by omega), wr_na (by decide)]; exact (c i hi).1.2.1, by rw [wv_n (by omega), wr_na (by decide)]; exact (c i hi).1.2.2.1, by rw [wv_n (by omega), wr_na (by decide)]; exact (c i hi).1.2.2.2⟩, fun x hx => ?_⟩
    rw [wv_n (by omega)]; unfold ln at *; rw [wr_na (by decide)]; exact (c i hi).2 x hx
  · refine ⟨by rw [wv_n (by omega), wr_na (by decide)]; exact (d i hi).1, fun w => ?_⟩
    rw [wr_na (by decide)] at w
    exact ⟨by rw [wv_n (by omega), wr_na (by decide)]; exact ((d i hi).2 w).1, by rw [wv_n (by omega), wr_na (by decide)]; exact ((d i hi).2 w).2.1, by rw [wv_n (by omega), wr_na (by decide)]; exact ((d i hi).2 w).2.2.1, by rw [wv_n (by omega), wr_na (by decide)]; exact ((d i hi).2 w).2.2.2⟩
  · rw [wr_na (by decide)] at hi; exact ⟨by rw [wv_n (by omega), wr_na (by decide)]; exact (e i hi).1, by rw [wv_n (by omega), wr_na (by decide)]; exact (e i hi).2.1, by rw [wv_n (by omega), wr_na (by decide)]; exact (e i hi).2.2⟩
theorem rel_rbs {S s : Mem} {ν : Nat → Int} {v : Int} (hr : rel S s ν) (n12 : S 0 7 ≤ 12) (c4 : S 0 0 ≤ 4) (q16 : s 5 0 ≤ 16) (r12 : s 11 0 ≤ 12) : rel S (wr s 0 9 v) (wv ν (14) (v)) := by
  obtain ⟨⟨a0, a1, a2, a3, a4, a5, a6, a7, a8⟩, ⟨b0, b1, b2, b3, b4, b5, b6, b7⟩, b, c, d, e⟩ := hr
  refine ⟨⟨by rw [wv_n (by omega)]; exact a0, by rw [wv_n (by omega)]; exact a1, by rw [wv_n (by omega)]; exact a2, by rw [wv_n (by omega)]; exact a3, by rw [wv_n (by omega)]; exact a4, by rw [wv_n (by omega)]; exact a5, by rw [wv_n (by omega)]; exact a6, by rw [wv_n (by omega)]; exact a7, by rw [wv_n (by omega)]; exact a8⟩, ⟨?_, ?_, ?_, ?_, ?_, ?_, ?_, ?_⟩, fun i hi => ?_, fun i hi => ?_, fun i hi => ?_, fun i hi => ?_⟩
  · rw [wv_n (by omega), wr_ni (by decide)]; exact b0
  · rw [wv_n (by omega), wr_na (by decide)]; exact b1
  · rw [wv_n (by omega), wr_ni (by decide)]; exact b2
  · rw [wv_n (by omega), wr_na (by decide)]; exact b3
  · rw [wv_n (by omega), wr_ni (by decide)]; exact b4
  · rw [wv_n (by omega), wr_ni (by decide)]; exact b5
  · rw [wv_s, wr_s]
  · rw [wv_n (by omega), wr_ni (by decide)]; exact b7
  · exact ⟨by rw [wv_n (by omega)]; exact (b i hi).1, by rw [wv_n (by omega)]; exact (b i hi).2.1, by rw [wv_n (by omega)]; exact (b i hi).2.2.1, by rw [wv_n (by omega), wr_na (by decide)]; exact (b i hi).2.2.2.1, by rw [wv_n (by omega), wr_na (by decide)]; exact (b i hi).2.2.2.2.1, by rw [wv_n (by omega), wr_na (by decide)]; exact (b i hi).2.2.2.2.2⟩
  · rw [wr_na (by decide)] at hi; refine ⟨⟨by rw [wv_n (by omega), wr_na (by decide)]; exact (c i hi).1.1, by rw [wv_n (by omega), wr_na (by decide)]; exact (c i hi).1.2.1, by rw [wv_n (by omega), wr_na (by decide)]; exact (c i hi).1.2.2.1, by rw [wv_n (by omega), wr_na (by decide)]; exact (c i hi).1.2.2.2⟩, fun x hx => ?_⟩
    rw [wv_n (by omega)]; unfold ln at *; rw [wr_na (by decide)]; exact (c i hi).2 x hx
  · refine ⟨by rw [wv_n (by omega), wr_na (by decide)]; exact (d i hi).1, fun w => ?_⟩
    rw [wr_na (by decide)] at w
    exact ⟨by rw [wv_n (by omega), wr_na (by decide)]; exact ((d i hi).2 w).1, by rw [wv_n (by omega), wr_na (by decide)]; exact ((d i hi).2 w).2.1, by rw [wv_n (by omega), wr_na (by decide)]; exact ((d i hi).2 w).2.2.1, by rw [wv_n (by omega), wr_na (by decide)]; exact ((d i hi).2 w).2.2.2⟩
  · rw [wr_na (by decide)] at hi; exact ⟨by rw [wv_n (by omega), wr_na (by decide)]; exact (e i hi).1, by rw [wv_n (by omega), wr_na (by decide)]; exact (e i hi).2.1, by rw [wv_n (by omega), wr_na (by decide)]; exact (e i hi).2.2⟩
theorem rel_shr {S s : Mem} {ν : Nat → Int} {v : Int} (hr : rel S s ν) (n12 : S 0 7 ≤ 12) (c4 : S 0 0 ≤ 4) (q16 : s 5 0 ≤ 16) (r12 : s 11 0 ≤ 12) : rel S (wr s 0 10 v) (wv ν (15) (v)) := by
  obtain ⟨⟨a0, a1, a2, a3, a4, a5, a6, a7, a8⟩, ⟨b0, b1, b2, b3, b4, b5, b6, b7⟩, b, c, d, e⟩ := hr
  refine ⟨⟨by rw [wv_n (by omega)]; exact a0, by rw [wv_n (by omega)]; exact a1, by rw [wv_n (by omega)]; exact a2, by rw [wv_n (by omega)]; exact a3, by rw [wv_n (by omega)]; exact a4, by rw [wv_n (by omega)]; exact a5, by rw [wv_n (by omega)]; exact a6, by rw [wv_n (by omega)]; exact a7, by rw [wv_n (by omega)]; exact a8⟩, ⟨?_, ?_, ?_, ?_, ?_, ?_, ?_, ?_⟩, fun i hi => ?_, fun i hi => ?_, fun i hi => ?_, fun i hi => ?_⟩
  · rw [wv_n (by omega), wr_ni (by decide)]; exact b0
  · rw [wv_n (by omega), wr_na (by decide)]; exact b1
  · rw [wv_n (by omega), wr_ni (by decide)]; exact b2
  · rw [wv_n (by omega), wr_na (by decide)]; exact b3
  · rw [wv_n (by omega), wr_ni (by decide)]; exact b4
  · rw [wv_n (by omega), wr_ni (by decide)]; exact b5
  · rw [wv_n (by omega), wr_ni (by decide)]; exact b6
  · rw [wv_s, wr_s]
  · exact ⟨by rw [wv_n (by omega)]; exact (b i hi).1, by rw [wv_n (by omega)]; exact (b i hi).2.1, by rw [wv_n (by omega)]; exact (b i hi).2.2.1, by rw [wv_n (by omega), wr_na (by decide)]; exact (b i hi).2.2.2.1, by rw [wv_n (by omega), wr_na (by decide)]; exact (b i hi).2.2.2.2.1, by rw [wv_n (by omega), wr_na (by decide)]; exact (b i hi).2.2.2.2.2⟩
  · rw [wr_na (by decide)] at hi; refine ⟨⟨by rw [wv_n (by omega), wr_na (by decide)]; exact (c i hi).1.1, by rw [wv_n (by omega), wr_na (by decide)]; exact (c i hi).1.2.1, by rw [wv_n (by omega), wr_na (by decide)]; exact (c i hi).1.2.2.1, by rw [wv_n (by omega), wr_na (by decide)]; exact (c i hi).1.2.2.2⟩, fun x hx => ?_⟩
    rw [wv_n (by omega)]; unfold ln at *; rw [wr_na (by decide)]; exact (c i hi).2 x hx
  · refine ⟨by rw [wv_n (by omega), wr_na (by decide)]; exact (d i hi).1, fun w => ?_⟩
    rw [wr_na (by decide)] at w
    exact ⟨by rw [wv_n (by omega), wr_na (by decide)]; exact ((d i hi).2 w).1, by rw [wv_n (by omega), wr_na (by decide)]; exact ((d i hi).2 w).2.1, by rw [wv_n (by omega), wr_na (by decide)]; exact ((d i hi).2 w).2.2.1, by rw [wv_n (by omega), wr_na (by decide)]; exact ((d i hi).2 w).2.2.2⟩
  · rw [wr_na (by decide)] at hi; exact ⟨by rw [wv_n (by omega), wr_na (by decide)]; exact (e i hi).1, by rw [wv_n (by omega), wr_na (by decide)]; exact (e i hi).2.1, by rw [wv_n (by omega), wr_na (by decide)]; exact (e i hi).2.2⟩
theorem rel_end {S s : Mem} {ν : Nat → Int} {v : Int} (hr : rel S s ν) (n12 : S 0 7 ≤ 12) (c4 : S 0 0 ≤ 4) (q16 : s 5 0 ≤ 16) (r12 : s 11 0 ≤ 12) : rel S (s) (wv ν (17) (v)) := by
  obtain ⟨⟨a0, a1, a2, a3, a4, a5, a6, a7, a8⟩, ⟨b0, b1, b2, b3, b4, b5, b6, b7⟩, b, c, d, e⟩ := hr
  refine ⟨⟨by rw [wv_n (by omega)]; exact a0, by rw [wv_n (by omega)]; exact a1, by rw [wv_n (by omega)]; exact a2, by rw [wv_n (by omega)]; exact a3, by rw [wv_n (by omega)]; exact a4, by rw [wv_n (by omega)]; exact a5, by rw [wv_n (by omega)]; exact a6, by rw [wv_n (by omega)]; exact a7, by rw [wv_n (by omega)]; exact a8⟩, ⟨?_, ?_, ?_, ?_, ?_, ?_, ?_, ?_⟩, fun i hi => ?_, fun i hi => ?_, fun i hi => ?_, fun i hi => ?_⟩
  · rw [wv_n (by omega)]; exact b0
  · rw [wv_n (by omega)]; exact b1
  · rw [wv_n (by omega)]; exact b2
  · rw [wv_n (by omega)]; exact b3
  · rw [wv_n (by omega)]; exact b4
  · rw [wv_n (by omega)]; exact b5
  · rw [wv_n (by omega)]; exact b6
  · rw [wv_n (by omega)]; exact b7
  · exact ⟨by rw [wv_n (by omega)]; exact (b i hi).1, by rw [wv_n (by omega)]; exact (b i hi).2.1, by rw [wv_n (by omega)]; exact (b i hi).2.2.1, by rw [wv_n (by omega)]; exact (b i hi).2.2.2.1, by rw [wv_n (by omega)]; exact (b i hi).2.2.2.2.1, by rw [wv_n (by omega)]; exact (b i hi).2.2.2.2.2⟩
  · refine ⟨⟨by rw [wv_n (by omega)]; exact (c i hi).1.1, by rw [wv_n (by omega)]; exact (c i hi).1.2.1, by rw [wv_n (by omega)]; exact (c i hi).1.2.2.1, by rw [wv_n (by omega)]; exact (c i hi).1.2.2.2⟩, fun x hx => ?_⟩
    rw [wv_n (by omega)]; unfold ln at *; exact (c i hi).2 x hx
  · refine ⟨by rw [wv_n (by omega)]; exact (d i hi).1, fun w => ?_⟩
    exact ⟨by rw [wv_n (by omega)]; exact ((d i hi).2 w).1, by rw [wv_n (by omega)]; exact ((d i hi).2 w).2.1, by rw [wv_n (by omega)]; exact ((d i hi).2 w).2.2.1, by rw [wv_n (by omega)]; exact ((d i hi).2 w).2.2.2⟩
  · exact ⟨by rw [wv_n (by omega)]; exact (e i hi).1, by rw [wv_n (by omega)]; exact (e i hi).2.1, by rw [wv_n (by omega)]; exact (e i hi).2.2⟩
theorem rel_rem {S s : Mem} {ν : Nat → Int} {h : Nat} {v : Int} (hh : (h : Int) < S 0 0) (hr : rel S s ν) (n12 : S 0 7 ≤ 12) (c4 : S 0 0 ≤ 4) (q16 : s 5 0 ≤ 16) (r12 : s 11 0 ≤ 12) : rel S (wr s 19 h v) (wv ν (362 + 5 * h + 3) (v)) := by
  obtain ⟨⟨a0, a1, a2, a3, a4, a5, a6, a7, a8⟩, ⟨b0, b1, b2, b3, b4, b5, b6, b7⟩, b, c, d, e⟩ := hr
  refine ⟨⟨by rw [wv_n (by omega)]; exact a0, by rw [wv_n (by omega)]; exact a1, by rw [wv_n (by omega)]; exact a2, by rw [wv_n (by omega)]; exact a3, by rw [wv_n (by omega)]; exact a4, by rw [wv_n (by omega)]; exact a5, by rw [wv_n (by omega)]; exact a6, by rw [wv_n (by omega)]; exact a7, by rw [wv_n (by omega)]; exact a8⟩, ⟨?_, ?_, ?_, ?_, ?_, ?_, ?_, ?_⟩, fun i hi => ?_, fun i hi => ?_, fun i hi => ?_, fun i hi => ?_⟩
  · rw [wv_n (by omega), wr_na (by decide)]; exact b0
  · rw [wv_n (by omega), wr_na (by decide)]; exact b1
  · rw [wv_n (by omega), wr_na (by decide)]; exact b2
  · rw [wv_n (by omega), wr_na (by decide)]; exact b3
  · rw [wv_n (by omega), wr_na (by decide)]; exact b4
  · rw [wv_n (by omega), wr_na (by decide)]; exact b5
  · rw [wv_n (by omega), wr_na (by decide)]; exact b6
  · rw [wv_n (by omega), wr_na (by decide)]; exact b7
  · exact ⟨by rw [wv_n (by omega)]; exact (b i hi).1, by rw [wv_n (by omega)]; exact (b i hi).2.1, by rw [wv_n (by omega)]; exact (b i hi).2.2.1, by rw [wv_n (by omega), wr_na (by decide)]; exact (b i hi).2.2.2.1, by rw [wv_n (by omega), wr_na (by decide)]; exact (b i hi).2.2.2.2.1, by rw [wv_n (by omega), wr_na (by decide)]; exact (b i hi).2.2.2.2.2⟩
  · rw [wr_na (by decide)] at hi; refine ⟨⟨by rw [wv_n (by omega), wr_na (by decide)]; exact (c i hi).1.1, by rw [wv_n (by omega), wr_na (by decide)]; exact (c i hi).1.2.1, by rw [wv_n (by omega), wr_na (by decide)]; exact (c i hi).1.2.2.1, by rw [wv_n (by omega), wr_na (by decide)]; exact (c i hi).1.2.2.2⟩, fun x hx => ?_⟩
    rw [wv_n (by omega)]; unfold ln at *; rw [wr_na (by decide)]; exact (c i hi).2 x hx
  · refine ⟨by rw [wv_n (by omega), wr_na (by decide)]; exact (d i hi).1, fun w => ?_⟩
    rw [wr_na (by decide)] at w
    exact ⟨by rw [wv_n (by omega), wr_na (by decide)]; exact ((d i hi).2 w).1, by rw [wv_n (by omega), wr_na (by decide)]; exact ((d i hi).2 w).2.1, (if g : i = h then (by subst g; rw [wv_s, wr_s]) else (by rw [wv_n (by omega), wr_ni g]; exact ((d i hi).2 w).2.2.1)), by rw [wv_n (by omega), wr_na (by decide)]; exact ((d i hi).2 w).2.2.2⟩
  · rw [wr_na (by decide)] at hi; exact ⟨by rw [wv_n (by omega), wr_na (by decide)]; exact (e i hi).1, by rw [wv_n (by omega), wr_na (by decide)]; exact (e i hi).2.1, by rw [wv_n (by omega), wr_na (by decide)]; exact (e i hi).2.2⟩
theorem rel_reb {S s : Mem} {ν : Nat → Int} {h : Nat} {v : Int} (hh : (h : Int) < S 0 0) (hr : rel S s ν) (n12 : S 0 7 ≤ 12) (c4 : S 0 0 ≤ 4) (q16 : s 5 0 ≤ 16) (r12 : s 11 0 ≤ 12) : rel S (wr s 20 h v) (wv ν (362 + 5 * h + 4) (v)) := by
  obtain ⟨⟨a0, a1, a2, a3, a4, a5, a6, a7, a8⟩, ⟨b0, b1, b2, b3, b4, b5, b6, b7⟩, b, c, d, e⟩ := hr
  refine ⟨⟨by rw [wv_n (by omega)]; exact a0, by rw [wv_n (by omega)]; exact a1, by rw [wv_n (by omega)]; exact a2, by rw [wv_n (by omega)]; exact a3, by rw [wv_n (by omega)]; exact a4, by rw [wv_n (by omega)]; exact a5, by rw [wv_n (by omega)]; exact a6, by rw [wv_n (by omega)]; exact a7, by rw [wv_n (by omega)]; exact a8⟩, ⟨?_, ?_, ?_, ?_, ?_, ?_, ?_, ?_⟩, fun i hi => ?_, fun i hi => ?_, fun i hi => ?_, fun i hi => ?_⟩
  · rw [wv_n (by omega), wr_na (by decide)]; exact b0
  · rw [wv_n (by omega), wr_na (by decide)]; exact b1
  · rw [wv_n (by omega), wr_na (by decide)]; exact b2
  · rw [wv_n (by omega), wr_na (by decide)]; exact b3
  · rw [wv_n (by omega), wr_na (by decide)]; exact b4
  · rw [wv_n (by omega), wr_na (by decide)]; exact b5
  · rw [wv_n (by omega), wr_na (by decide)]; exact b6
  · rw [wv_n (by omega), wr_na (by decide)]; exact b7
  · exact ⟨by rw [wv_n (by omega)]; exact (b i hi).1, by rw [wv_n (by omega)]; exact (b i hi).2.1, by rw [wv_n (by omega)]; exact (b i hi).2.2.1, by rw [wv_n (by omega), wr_na (by decide)]; exact (b i hi).2.2.2.1, by rw [wv_n (by omega), wr_na (by decide)]; exact (b i hi).2.2.2.2.1, by rw [wv_n (by omega), wr_na (by decide)]; exact (b i hi).2.2.2.2.2⟩
  · rw [wr_na (by decide)] at hi; refine ⟨⟨by rw [wv_n (by omega), wr_na (by decide)]; exact (c i hi).1.1, by rw [wv_n (by omega), wr_na (by decide)]; exact (c i hi).1.2.1, by rw [wv_n (by omega), wr_na (by decide)]; exact (c i hi).1.2.2.1, by rw [wv_n (by omega), wr_na (by decide)]; exact (c i hi).1.2.2.2⟩, fun x hx => ?_⟩
    rw [wv_n (by omega)]; unfold ln at *; rw [wr_na (by decide)]; exact (c i hi).2 x hx
  · refine ⟨by rw [wv_n (by omega), wr_na (by decide)]; exact (d i hi).1, fun w => ?_⟩
    rw [wr_na (by decide)] at w
    exact ⟨by rw [wv_n (by omega), wr_na (by decide)]; exact ((d i hi).2 w).1, by rw [wv_n (by omega), wr_na (by decide)]; exact ((d i hi).2 w).2.1, by rw [wv_n (by omega), wr_na (by decide)]; exact ((d i hi).2 w).2.2.1, (if g : i = h then (by subst g; rw [wv_s, wr_s]) else (by rw [wv_n (by omega), wr_ni g]; exact ((d i hi).2 w).2.2.2))⟩
  · rw [wr_na (by decide)] at hi; exact ⟨by rw [wv_n (by omega), wr_na (by decide)]; exact (e i hi).1, by rw [wv_n (by omega), wr_na (by decide)]; exact (e i hi).2.1, by rw [wv_n (by omega), wr_na (by decide)]; exact (e i hi).2.2⟩
theorem rel_raz {S s : Mem} {ν : Nat → Int} {m : Nat} {v : Int} (hm : (m : Int) < S 0 7) (hr : rel S s ν) (n12 : S 0 7 ≤ 12) (c4 : S 0 0 ≤ 4) (q16 : s 5 0 ≤ 16) (r12 : s 11 0 ≤ 12) : rel S (wr s 3 m v) (wv ν (18 + 6 * m + 4) (v)) := by
  obtain ⟨⟨a0, a1, a2, a3, a4, a5, a6, a7, a8⟩, ⟨b0, b1, b2, b3, b4, b5, b6, b7⟩, b, c, d, e⟩ := hr
  refine ⟨⟨by rw [wv_n (by omega)]; exact a0, by rw [wv_n (by omega)]; exact a1, by rw [wv_n (by omega)]; exact a2, by rw [wv_n (by omega)]; exact a3, by rw [wv_n (by omega)]; exact a4, by rw [wv_n (by omega)]; exact a5, by rw [wv_n (by omega)]; exact a6, by rw [wv_n (by omega)]; exact a7, by rw [wv_n (by omega)]; exact a8⟩, ⟨?_, ?_, ?_, ?_, ?_, ?_, ?_, ?_⟩, fun i hi => ?_, fun i hi => ?_, fun i hi => ?_, fun i hi => ?_⟩
  · rw [wv_n (by omega), wr_na (by decide)]; exact b0
  · rw [wv_n (by omega), wr_na (by decide)]; exact b1
  · rw [wv_n (by omega), wr_na (by decide)]; exact b2
  · rw [wv_n (by omega), wr_na (by decide)]; exact b3
  · rw [wv_n (by omega), wr_na (by decide)]; exact b4
  · rw [wv_n (by omega), wr_na (by decide)]; exact b5
  · rw [wv_n (by omega), wr_na (by decide)]; exact b6
  · rw [wv_n (by omega), wr_na (by decide)]; exact b7
  · exact ⟨by rw [wv_n (by omega)]; exact (b i hi).1, by rw [wv_n (by omega)]; exact (b i hi).2.1, by rw [wv_n (by omega)]; exact (b i hi).2.2.1, by rw [wv_n (by omega), wr_na (by decide)]; exact (b i hi).2.2.2.1, (if g : i = m then (by subst g; rw [wv_s, wr_s]) else (by rw [wv_n (by omega), wr_ni g]; exact (b i hi).2.2.2.2.1)), by rw [wv_n (by omega), wr_na (by decide)]; exact (b i hi).2.2.2.2.2⟩
  · rw [wr_na (by decide)] at hi; refine ⟨⟨by rw [wv_n (by omega), wr_na (by decide)]; exact (c i hi).1.1, by rw [wv_n (by omega), wr_na (by decide)]; exact (c i hi).1.2.1, by rw [wv_n (by omega), wr_na (by decide)]; exact (c i hi).1.2.2.1, by rw [wv_n (by omega), wr_na (by decide)]; exact (c i hi).1.2.2.2⟩, fun x hx => ?_⟩
    rw [wv_n (by omega)]; unfold ln at *; rw [wr_na (by decide)]; exact (c i hi).2 x hx
  · refine ⟨by rw [wv_n (by omega), wr_na (by decide)]; exact (d i hi).1, fun w => ?_⟩
    rw [wr_na (by decide)] at w
    exact ⟨by rw [wv_n (by omega), wr_na (by decide)]; exact ((d i hi).2 w).1, by rw [wv_n (by omega), wr_na (by decide)]; exact ((d i hi).2 w).2.1, by rw [wv_n (by omega), wr_na (by decide)]; exact ((d i hi).2 w).2.2.1, by rw [wv_n (by omega), wr_na (by decide)]; exact ((d i hi).2 w).2.2.2⟩
  · rw [wr_na (by decide)] at hi; exact ⟨by rw [wv_n (by omega), wr_na (by decide)]; exact (e i hi).1, by rw [wv_n (by omega), wr_na (by decide)]; exact (e i hi).2.1, by rw [wv_n (by omega), wr_na (by decide)]; exact (e i hi).2.2⟩
theorem rel_pur {S s : Mem} {ν : Nat → Int} {m : Nat} {v : Int} (hm : (m : Int) < S 0 7) (hr : rel S s ν) (n12 : S 0 7 ≤ 12) (c4 : S 0 0 ≤ 4) (q16 : s 5 0 ≤ 16) (r12 : s 11 0 ≤ 12) : rel S (wr s 2 m v) (wv ν (18 + 6 * m + 3) (v)) := by
  obtain ⟨⟨a0, a1, a2, a3, a4, a5, a6, a7, a8⟩, ⟨b0, b1, b2, b3, b4, b5, b6, b7⟩, b, c, d, e⟩ := hr
  refine ⟨⟨by rw [wv_n (by omega)]; exact a0, by rw [wv_n (by omega)]; exact a1, by rw [wv_n (by omega)]; exact a2, by rw [wv_n (by omega)]; exact a3, by rw [wv_n (by omega)]; exact a4, by rw [wv_n (by omega)]; exact a5, by rw [wv_n (by omega)]; exact a6, by rw [wv_n (by omega)]; exact a7, by rw [wv_n (by omega)]; exact a8⟩, ⟨?_, ?_, ?_, ?_, ?_, ?_, ?_, ?_⟩, fun i hi => ?_, fun i hi => ?_, fun i hi => ?_, fun i hi => ?_⟩
  · rw [wv_n (by omega), wr_na (by decide)]; exact b0
  · rw [wv_n (by omega), wr_na (by decide)]; exact b1
  · rw [wv_n (by omega), wr_na (by decide)]; exact b2
  · rw [wv_n (by omega), wr_na (by decide)]; exact b3
  · rw [wv_n (by omega), wr_na (by decide)]; exact b4
  · rw [wv_n (by omega), wr_na (by decide)]; exact b5
  · rw [wv_n (by omega), wr_na (by decide)]; exact b6
  · rw [wv_n (by omega), wr_na (by decide)]; exact b7
  · exact ⟨by rw [wv_n (by omega)]; exact (b i hi).1, by rw [wv_n (by omega)]; exact (b i hi).2.1, by rw [wv_n (by omega)]; exact (b i hi).2.2.1, (if g : i = m then (by subst g; rw [wv_s, wr_s]) else (by rw [wv_n (by omega), wr_ni g]; exact (b i hi).2.2.2.1)), by rw [wv_n (by omega), wr_na (by decide)]; exact (b i hi).2.2.2.2.1, by rw [wv_n (by omega), wr_na (by decide)]; exact (b i hi).2.2.2.2.2⟩
  · rw [wr_na (by decide)] at hi; refine ⟨⟨by rw [wv_n (by omega), wr_na (by decide)]; exact (c i hi).1.1, by rw [wv_n (by omega), wr_na (by decide)]; exact (c i hi).1.2.1, by rw [wv_n (by omega), wr_na (by decide)]; exact (c i hi).1.2.2.1, by rw [wv_n (by omega), wr_na (by decide)]; exact (c i hi).1.2.2.2⟩, fun x hx => ?_⟩
    rw [wv_n (by omega)]; unfold ln at *; rw [wr_na (by decide)]; exact (c i hi).2 x hx
  · refine ⟨by rw [wv_n (by omega), wr_na (by decide)]; exact (d i hi).1, fun w => ?_⟩
    rw [wr_na (by decide)] at w
    exact ⟨by rw [wv_n (by omega), wr_na (by decide)]; exact ((d i hi).2 w).1, by rw [wv_n (by omega), wr_na (by decide)]; exact ((d i hi).2 w).2.1, by rw [wv_n (by omega), wr_na (by decide)]; exact ((d i hi).2 w).2.2.1, by rw [wv_n (by omega), wr_na (by decide)]; exact ((d i hi).2 w).2.2.2⟩
  · rw [wr_na (by decide)] at hi; exact ⟨by rw [wv_n (by omega), wr_na (by decide)]; exact (e i hi).1, by rw [wv_n (by omega), wr_na (by decide)]; exact (e i hi).2.1, by rw [wv_n (by omega), wr_na (by decide)]; exact (e i hi).2.2⟩
theorem rel_spe {S s : Mem} {ν : Nat → Int} {m : Nat} {v : Int} (hm : (m : Int) < S 0 7) (hr : rel S s ν) (n12 : S 0 7 ≤ 12) (c4 : S 0 0 ≤ 4) (q16 : s 5 0 ≤ 16) (r12 : s 11 0 ≤ 12) : rel S (wr s 4 m v) (wv ν (18 + 6 * m + 5) (v)) := by
  obtain ⟨⟨a0, a1, a2, a3, a4, a5, a6, a7, a8⟩, ⟨b0, b1, b2, b3, b4, b5, b6, b7⟩, b, c, d, e⟩ := hr
  refine ⟨⟨by rw [wv_n (by omega)]; exact a0, by rw [wv_n (by omega)]; exact a1, by rw [wv_n (by omega)]; exact a2, by rw [wv_n (by omega)]; exact a3, by rw [wv_n (by omega)]; exact a4, by rw [wv_n (by omega)]; exact a5, by rw [wv_n (by omega)]; exact a6, by rw [wv_n (by omega)]; exact a7, by rw [wv_n (by omega)]; exact a8⟩, ⟨?_, ?_, ?_, ?_, ?_, ?_, ?_, ?_⟩, fun i hi => ?_, fun i hi => ?_, fun i hi => ?_, fun i hi => ?_⟩
  · rw [wv_n (by omega), wr_na (by decide)]; exact b0
  · rw [wv_n (by omega), wr_na (by decide)]; exact b1
  · rw [wv_n (by omega), wr_na (by decide)]; exact b2
  · rw [wv_n (by omega), wr_na (by decide)]; exact b3
  · rw [wv_n (by omega), wr_na (by decide)]; exact b4
  · rw [wv_n (by omega), wr_na (by decide)]; exact b5
  · rw [wv_n (by omega), wr_na (by decide)]; exact b6
  · rw [wv_n (by omega), wr_na (by decide)]; exact b7
  · exact ⟨by rw [wv_n (by omega)]; exact (b i hi).1, by rw [wv_n (by omega)]; exact (b i hi).2.1, by rw [wv_n (by omega)]; exact (b i hi).2.2.1, by rw [wv_n (by omega), wr_na (by decide)]; exact (b i hi).2.2.2.1, by rw [wv_n (by omega), wr_na (by decide)]; exact (b i hi).2.2.2.2.1, (if g : i = m then (by subst g; rw [wv_s, wr_s]) else (by rw [wv_n (by omega), wr_ni g]; exact (b i hi).2.2.2.2.2))⟩
  · rw [wr_na (by decide)] at hi; refine ⟨⟨by rw [wv_n (by omega), wr_na (by decide)]; exact (c i hi).1.1, by rw [wv_n (by omega), wr_na (by decide)]; exact (c i hi).1.2.1, by rw [wv_n (by omega), wr_na (by decide)]; exact (c i hi).1.2.2.1, by rw [wv_n (by omega), wr_na (by decide)]; exact (c i hi).1.2.2.2⟩, fun x hx => ?_⟩
    rw [wv_n (by omega)]; unfold ln at *; rw [wr_na (by decide)]; exact (c i hi).2 x hx
  · refine ⟨by rw [wv_n (by omega), wr_na (by decide)]; exact (d i hi).1, fun w => ?_⟩
    rw [wr_na (by decide)] at w
    exact ⟨by rw [wv_n (by omega), wr_na (by decide)]; exact ((d i hi).2 w).1, by rw [wv_n (by omega), wr_na (by decide)]; exact ((d i hi).2 w).2.1, by rw [wv_n (by omega), wr_na (by decide)]; exact ((d i hi).2 w).2.2.1, by rw [wv_n (by omega), wr_na (by decide)]; exact ((d i hi).2 w).2.2.2⟩
  · rw [wr_na (by decide)] at hi; exact ⟨by rw [wv_n (by omega), wr_na (by decide)]; exact (e i hi).1, by rw [wv_n (by omega), wr_na (by decide)]; exact (e i hi).2.1, by rw [wv_n (by omega), wr_na (by decide)]; exact (e i hi).2.2⟩
theorem rel_lve {S s : Mem} {ν : Nat → Int} {h : Nat} (hh : (h : Int) < S 0 0) (hr : rel S s ν) (n12 : S 0 7 ≤ 12) (c4 : S 0 0 ≤ 4) (q16 : s 5 0 ≤ 16) (r12 : s 11 0 ≤ 12) : rel S (lve s h) (wv ν (362 + 5 * h + 0) (-1)) := by
  obtain ⟨⟨a0, a1, a2, a3, a4, a5, a6, a7, a8⟩, ⟨b0, b1, b2, b3, b4, b5, b6, b7⟩, b, c, d, e⟩ := hr
  have o : ∀ r j, r ≠ 16 ∧ r ≠ 19 ∧ r ≠ 20 → lve s h r j = s r j := fun r j q => by unfold lve; rw [wr_na q.2.2, wr_na q.2.1, wr_na q.1]
  have l : ∀ m q, ln (lve s h) m q = ln s m q := fun m q => o _ _ (by decide)
  refine ⟨⟨by rw [wv_n (by omega)]; exact a0, by rw [wv_n (by omega)]; exact a1, by rw [wv_n (by omega)]; exact a2, by rw [wv_n (by omega)]; exact a3, by rw [wv_n (by omega)]; exact a4, by rw [wv_n (by omega)]; exact a5, by rw [wv_n (by omega)]; exact a6, by rw [wv_n (by omega)]; exact a7, by rw [wv_n (by omega)]; exact a8⟩, ⟨?_, ?_, ?_, ?_, ?_, ?_, ?_, ?_⟩, fun i hi => ?_, fun i hi => ?_, fun i hi => ?_, fun i hi => ?_⟩
  · rw [wv_n (by omega), o _ _ (by decide)]; exact b0
  · rw [wv_n (by omega), o _ _ (by decide)]; exact b1
  · rw [wv_n (by omega), o _ _ (by decide)]; exact b2
  · rw [wv_n (by omega), o _ _ (by decide)]; exact b3
  · rw [wv_n (by omega), o _ _ (by decide)]; exact b4
  · rw [wv_n (by omega), o _ _ (by decide)]; exact b5
  · rw [wv_n (by omega), o _ _ (by decide)]; exact b6
  · rw [wv_n (by omega), o _ _ (by decide)]; exact b7
  · rw [wv_n (by omega), wv_n (by omega), wv_n (by omega), wv_n (by omega), wv_n (by omega), wv_n (by omega), o 2 _ (by decide), o 3 _ (by decide), o 4 _ (by decide)]; exact b i hi
  · rw [o _ _ (by decide)] at hi
    refine ⟨?_, fun x hx => ?_⟩
    · rw [wv_n (by omega), wv_n (by omega), wv_n (by omega), wv_n (by omega), o 6 _ (by decide), o 7 _ (by decide), o 8 _ (by decide), o 9 _ (by decide)]; exact (c i hi).1
    · rw [wv_n (by omega), l]; exact (c i hi).2 x hx
  · have hd := d i hi
    by_cases g : i = h
    · subst g
      have e1 : lve s i 16 i = -1 := by unfold lve; rw [wr_na (by decide), wr_na (by decide), wr_s]
      rw [e1]
      exact ⟨wv_s, fun w => absurd rfl w⟩
    · have e1 : ∀ r, lve s h r i = s r i := fun r => by unfold lve; rw [wr_ni g, wr_ni g, wr_ni g]
      rw [e1, e1, e1, e1, e1, wv_n (by omega), wv_n (by omega), wv_n (by omega), wv_n (by omega), wv_n (by omega)]
      exact hd
  · rw [o _ _ (by decide)] at hi
    rw [wv_n (by omega), wv_n (by omega), wv_n (by omega), o 12 _ (by decide), o 13 _ (by decide), o 14 _ (by decide)]
    exact e i hi
