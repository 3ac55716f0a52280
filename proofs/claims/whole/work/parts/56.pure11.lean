theorem mKept_in {kz : Nat} {i : Int32} (h : ¬ bI (mKept kz i) = 0) (hz : kz ≤ 40) : vp_in i 40 := by
  unfold mKept at h
  split at h
  · exact absurd rfl h
  · rename_i h0
    split at h
    · exact absurd rfl h
    · rename_i h1
      exact kb_in h0 h1 hz (by decide)
