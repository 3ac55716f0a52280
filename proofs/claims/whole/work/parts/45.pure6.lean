theorem mDig_lt {X : Nat → Int32} {mz ma : Nat} (h : ¬ bI (mDig X mz ma) = 0) (hm : ma < 2 ^ 31) : ma < mz := by
  unfold mDig at h
  split at h
  · exact absurd rfl h
  · rename_i h0
    exact kb_lt h0 hm
/-- N digits more of a number -/
def mNumL (X : Nat → Int32) (mz : Nat) : Nat → Int32 → Nat → Bool → Int32 × Nat × Bool
  | 0, v, ma, wg => (v, ma, wg)
  | N + 1, v, ma, wg => if bI wg = 0 then (if bI (mDig X mz ma) = 0 then (0, ma, true) else mNumL X mz N (((10 * v) + X ma) - 48) (ma + 1) false) else (0, ma, true)
theorem mNumL_at {X : Nat → Int32} {mz : Nat} : ∀ (N : Nat) (v : Int32) (ma : Nat) (wg : Bool), (mNumL X mz N v ma wg).2.1 ≤ ma + N := by
  intro N
  induction N with
  | zero => intro v ma wg; exact Nat.le_refl _
  | succ N ih =>
    intro v ma wg
    unfold mNumL
    split
    · split
      · show ma ≤ ma + (N + 1); omega
      · have := ih (((10 * v) + X ma) - 48) (ma + 1) false; omega
    · show ma ≤ ma + (N + 1); omega
