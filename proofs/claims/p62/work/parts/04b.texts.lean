def mL_pick (L : Nat) (xs : Nat → Int32) : MI := (yL_pick, cL_pick, 3, some .int, [], some (false, L, xs))
theorem ok0_L_pick : mok0 (mL_pick 0 (fun _ => 0)) 3 ∧ Cond.static (mL_pick 0 (fun _ => 0)).1 ∈ aw := ⟨⟨(tb_in 844 (by decide +kernel) (by decide +kernel)), (tb_in 0 (by decide +kernel) (by decide +kernel)), by decide +kernel, ⟨by decide +kernel, by decide +kernel, by decide +kernel⟩, by decide, rfl⟩, (tb_in 843 (by decide +kernel) (by decide +kernel))⟩
theorem ok_L_pick {L : Nat} {xs : Nat → Int32} : mok0 (mL_pick L xs) 3 ∧ Cond.static (mL_pick L xs).1 ∈ aw := ok0_L_pick
def mL_cell (L : Nat) (xs : Nat → Int32) : MI := (yL_cell, cL_cell, 2, some .int, [], some (false, L, xs))
theorem ok0_L_cell : mok0 (mL_cell 0 (fun _ => 0)) 2 ∧ Cond.static (mL_cell 0 (fun _ => 0)).1 ∈ aw := ⟨⟨(tb_in 847 (by decide +kernel) (by decide +kernel)), (tb_in 0 (by decide +kernel) (by decide +kernel)), by decide +kernel, ⟨by decide +kernel, by decide +kernel, by decide +kernel⟩, by decide, rfl⟩, (tb_in 846 (by decide +kernel) (by decide +kernel))⟩
theorem ok_L_cell {L : Nat} {xs : Nat → Int32} : mok0 (mL_cell L xs) 2 ∧ Cond.static (mL_cell L xs).1 ∈ aw := ok0_L_cell
def mL_acts (L : Nat) (xs : Nat → Int32) : MI := (yL_acts, cL_acts, 10, some .int, [], some (false, L, xs))
theorem ok0_L_acts : mok0 (mL_acts 0 (fun _ => 0)) 4 ∧ Cond.static (mL_acts 0 (fun _ => 0)).1 ∈ aw := ⟨⟨(tb_in 1316 (by decide +kernel) (by decide +kernel)), (tb_in 0 (by decide +kernel) (by decide +kernel)), by decide +kernel, ⟨by decide +kernel, by decide +kernel, by decide +kernel⟩, by decide, rfl⟩, (tb_in 1315 (by decide +kernel) (by decide +kernel))⟩
theorem ok_L_acts {L : Nat} {xs : Nat → Int32} : mok0 (mL_acts L xs) 4 ∧ Cond.static (mL_acts L xs).1 ∈ aw := ok0_L_acts
def mL_begins (L : Nat) (xs : Nat → Int32) : MI := (yL_begins, cL_begins, 5, some .boolean, [], some (false, L, xs))
theorem ok0_L_begins : mok0 (mL_begins 0 (fun _ => 0)) 3 ∧ Cond.static (mL_begins 0 (fun _ => 0)).1 ∈ aw := ⟨⟨(tb_in 1441 (by decide +kernel) (by decide +kernel)), (tb_in 0 (by decide +kernel) (by decide +kernel)), by decide +kernel, ⟨by decide +kernel, by decide +kernel, by decide +kernel⟩, by decide, rfl⟩, (tb_in 1440 (by decide +kernel) (by decide +kernel))⟩
theorem ok_L_begins {L : Nat} {xs : Nat → Int32} : mok0 (mL_begins L xs) 3 ∧ Cond.static (mL_begins L xs).1 ∈ aw := ok0_L_begins
def mL_feeds (L : Nat) (xs : Nat → Int32) : MI := (yL_feeds, cL_feeds, 4, some .boolean, [], some (true, L, xs))
theorem ok0_L_feeds : mok0 (mL_feeds 0 (fun _ => 0)) 2 ∧ Cond.static (mL_feeds 0 (fun _ => 0)).1 ∈ aw := ⟨⟨(tb_in 1655 (by decide +kernel) (by decide +kernel)), (tb_in 0 (by decide +kernel) (by decide +kernel)), by decide +kernel, ⟨by decide +kernel, by decide +kernel, by decide +kernel⟩, by decide, rfl⟩, (tb_in 1654 (by decide +kernel) (by decide +kernel))⟩
theorem ok_L_feeds {L : Nat} {xs : Nat → Int32} : mok0 (mL_feeds L xs) 2 ∧ Cond.static (mL_feeds L xs).1 ∈ aw := ok0_L_feeds
def mL_four (L : Nat) (xs : Nat → Int32) : MI := (yL_four, cL_four, 4, some .int, [], some (true, L, xs))
theorem ok0_L_four : mok0 (mL_four 0 (fun _ => 0)) 2 ∧ Cond.static (mL_four 0 (fun _ => 0)).1 ∈ aw := ⟨⟨(tb_in 1659 (by decide +kernel) (by decide +kernel)), (tb_in 0 (by decide +kernel) (by decide +kernel)), by decide +kernel, ⟨by decide +kernel, by decide +kernel, by decide +kernel⟩, by decide, rfl⟩, (tb_in 1658 (by decide +kernel) (by decide +kernel))⟩
theorem ok_L_four {L : Nat} {xs : Nat → Int32} : mok0 (mL_four L xs) 2 ∧ Cond.static (mL_four L xs).1 ∈ aw := ok0_L_four
