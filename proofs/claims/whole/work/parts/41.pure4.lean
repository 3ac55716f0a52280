-- the reference's loops as functions
theorem kb_mo12 {mo : Int32} {i : Nat} (h : mo ≤ 12) (hi : 12 ≤ i) (hi2 : i < 2 ^ 31) : mo ≤ nI i := Int32.le_trans h (nI_le hi hi2)
theorem mAdd_2 {X : Nat → Int32} {mz : Nat} {v : Int32} : (mAdd X mz v).2 = mz + 1 + 1 + 1 + 1 := rfl
def mDyL (y mo : Int32) : Nat → Nat → Int32 → Int32
  | 0, _, n => n
  | N + 1, i, n => if mo ≤ nI i then n else mDyL y mo N (i + 1) (n + mDays y (nI i))
def mDayOf (y mo d : Int32) : Int32 := mDyL y mo 12 1 (mTo y + d - 1)
def yrL (d : Int32) : Nat → Int32 → Option Int32
  | 0, _ => none
  | N + 1, y => if d < mTo (y + 1) then some y else yrL d N (y + 1)
def yrF (d : Int32) : Int32 := (yrL d 10100 (d / 366)).getD 0
theorem yrF_eq {d : Int32} (h : (yrL d 10100 (d / 366)).isSome = true) : yrL d 10100 (d / 366) = some (yrF d) := by
  unfold yrF
  obtain ⟨y, hy⟩ := Option.isSome_iff_exists.mp h
  rw [hy]
  rfl
def moL (y : Int32) : Nat → Int32 → Int32 → Option Int32
  | 0, _, _ => none
  | N + 1, lf, n => if lf < mDays y n then some n else moL y N (lf - mDays y n) (n + 1)
