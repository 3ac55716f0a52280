/-- the part's digits, as long as there are any -/
def rpL (X : Nat → Int32) (mz : Nat) (wg : Bool) : Nat → Nat → (Nat → Int32) → Nat → Nat × (Nat → Int32) × Nat
  | 0, ma, PD, dg => (ma, PD, dg)
  | N + 1, ma, PD, dg => if bI wg = 0 then (if bI (mDig X mz ma) = 0 then (ma, PD, dg) else rpL X mz wg N (ma + 1) (upd PD dg (X ma - 48)) (dg + 1)) else (ma, PD, dg)
/-- the part times u, from its last digit on -/
def smL (u : Int32) : Nat → (Nat → Int32) → Int32 → (Nat → Int32) × Int32
  | 0, PD, cy => (PD, cy)
  | j + 1, PD, cy => smL u j (upd PD j (((PD j * u) + cy) - ((PD j * u) + cy) / 10 * 10)) (((PD j * u) + cy) / 10)
theorem rpL_at {X : Nat → Int32} {mz : Nat} {wg : Bool} : ∀ (N ma : Nat) (PD : Nat → Int32) (dg : Nat), (rpL X mz wg N ma PD dg).1 ≤ ma + N ∧ (rpL X mz wg N ma PD dg).2.2 ≤ dg + N := by
  intro N
  induction N with
  | zero => intro ma PD dg; exact ⟨Nat.le_refl _, Nat.le_refl _⟩
  | succ N ih =>
    intro ma PD dg
    unfold rpL
    split
    · split
      · exact ⟨Nat.le_add_right _ _, Nat.le_add_right _ _⟩
      · have := ih (ma + 1) (upd PD dg (X ma - 48)) (dg + 1)
        omega
    · exact ⟨Nat.le_add_right _ _, Nat.le_add_right _ _⟩
theorem mTwo_at {X : Nat → Int32} {mz ma : Nat} {wg : Bool} {lo hi : Int32} : (mTwo X mz ma wg lo hi).2.1 ≤ ma + 2 := by
  have := mNumL_at (X := X) (mz := mz) 2 0 ma wg
  unfold mTwo
  dsimp only
  repeat' split
  all_goals exact this
theorem mYear_at {X : Nat → Int32} {mz ma : Nat} {wg : Bool} {kind : Int32} : (mYear X mz ma wg kind).2.1 ≤ ma + 4 := by
  have h2 := mNumL_at (X := X) (mz := mz) 2 0 ma wg
  have h4 := mNumL_at (X := X) (mz := mz) 4 0 ma wg
  unfold mYear
  dsimp only
  repeat' split
  all_goals first | exact h4 | (refine Nat.le_trans h2 ?_; omega)
