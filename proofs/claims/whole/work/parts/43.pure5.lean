def moF (al : Int64) : Int32 := (moL (yrF (mDay al)) 13 (mDay al - mTo (yrF (mDay al))) 1).getD 0
theorem moF_eq {al : Int64} (h : (moL (yrF (mDay al)) 13 (mDay al - mTo (yrF (mDay al))) 1).isSome = true) : moL (yrF (mDay al)) 13 (mDay al - mTo (yrF (mDay al))) 1 = some (moF al) := by
  unfold moF
  obtain ⟨y, hy⟩ := Option.isSome_iff_exists.mp h
  rw [hy]
  rfl
