theorem mShort_at {X : Nat → Int32} {mz ma : Nat} {wg : Bool} : (mShort X mz ma wg).2.1 ≤ ma + 4 := by
  have h1 := mTwo_at (X := X) (mz := mz) (ma := ma) (wg := wg) (lo := 0) (hi := 59)
  have h2 := mTwo_at (X := X) (mz := mz) (ma := (mTwo X mz ma wg 0 59).2.1) (wg := (mTwo X mz ma wg 0 59).2.2) (lo := 0) (hi := 59)
  unfold mShort
  dsimp only
  split
  · exact Nat.le_trans h1 (by omega)
  · exact Nat.le_trans h2 (by omega)
theorem mRp_at {X : Nat → Int32} {mz ma : Nat} {wg : Bool} {PD : Nat → Int32} {dg : Nat} {u : Int32} : (mRp X mz ma wg PD dg u).2.1 ≤ ma + 1 + mz := by
  unfold mRp
  repeat' split
  all_goals
    refine Nat.le_trans (rpL_at _ _ _ _).1 ?_
    omega
theorem mLong_at {X : Nat → Int32} {mz ma : Nat} {wg : Bool} {PD : Nat → Int32} {dg : Nat} : (mLong X mz ma wg PD dg).2.1 ≤ ma + 5 + mz := by
  have h1 := mTwo_at (X := X) (mz := mz) (ma := ma) (wg := wg) (lo := 0) (hi := 59)
  have h2 := mTwo_at (X := X) (mz := mz) (ma := (mTwo X mz ma wg 0 59).2.1) (wg := (mTwo X mz ma wg 0 59).2.2) (lo := 0) (hi := 59)
  unfold mLong
  generalize mTwo X mz ma wg 0 59 = a at h1 h2 ⊢
  dsimp only
  generalize mTwo X mz a.2.1 a.2.2 0 59 = b at h2 ⊢
  repeat' split
  all_goals try dsimp only
  all_goals first | omega | (with_reducible refine Nat.le_trans mRp_at ?_; omega)
theorem mTwo_hi {X : Nat → Int32} {mz ma : Nat} {wg : Bool} {lo hi : Int32} (h : lo ≤ hi) : (mTwo X mz ma wg lo hi).1 ≤ hi := by
  unfold mTwo
  dsimp only
  repeat' split
  all_goals first | exact h | assumption
