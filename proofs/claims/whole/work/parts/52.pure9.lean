/-- the part's digits behind what the reference has written -/
def wpL (PD : Nat → Int32) (dg : Nat) : Nat → Nat → (Nat → Int32) → Nat → (Nat → Int32) × Nat
  | 0, _, U, wr => (U, wr)
  | N + 1, i, U, wr => if dg ≤ i then (U, wr) else wpL PD dg N (i + 1) (mPut1 U wr (PD i)).1 (mPut1 U wr (PD i)).2
