-- the part's length stays in its row
theorem spread_le {v mi ss : Int32} {g : Nat → Int32} {k : Nat} (hk : k ≤ 242) : (spread v mi ss g k).2.2.2 ≤ 242 := by
  unfold spread
  split <;> split <;> exact Nat.le_trans (stL_le _ _) hk
theorem kHas_in {z : Nat} {i : Int32} (h : ¬ bI (kHas z i) = 0) (hz : z ≤ 40) : vp_in i 40 := by
  unfold kHas at h
  split at h
  · exact absurd rfl h
  · rename_i h0
    split at h
    · exact absurd rfl h
    · rename_i h1
      exact kb_in h0 h1 hz (by decide)
theorem rdClock_le {f : Nat → Int32} {n : Nat} {kind ta hh mi ss : Int32} {g : Nat → Int32} {k : Nat} (hk : k ≤ 242) : (rdClock f n kind ta hh mi ss g k).2.2.2.2.2.2 ≤ 242 := by
  unfold rdClock
  dsimp only
  repeat' split
  all_goals first | with_reducible exact hk | with_reducible exact spread_le (ptL_le _ _ _ _ hk)
theorem rdFault_k {f : Nat → Int32} {n : Nat} {kind mo d hh : Int32} {g : Nat → Int32} {k : Nat} (hn : n ≤ 242) : (rdFault f n kind mo d hh g k).2.2.2.2.2.2.2.2.2.2 ≤ 242 := by
  unfold rdFault
  dsimp only
  repeat' split
  all_goals first | with_reducible exact Nat.zero_le _ | with_reducible exact rdClock_le (Nat.zero_le _)
