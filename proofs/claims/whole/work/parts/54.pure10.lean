theorem kb_in' {i : Int32} {n N : Nat} (h0 : ¬ i < 0) (h1 : i < nI n) (hn : n ≤ N) (hN : N < 2 ^ 31) : vp_in i N := kb_in h0 (Int32.not_le.mpr h1) hn hN
theorem bI_ne {b : Bool} (h : ¬ bI b = 0) : b = true := by cases b <;> first | rfl | exact absurd rfl h
theorem kb_ne40 {kz : Nat} (h : ¬ nI kz = 40) (hk : kz ≤ 40) : kz < 40 := by
  rcases Nat.lt_or_ge kz 40 with q | q
  · exact q
  · exact absurd (show nI kz = nI 40 by rw [show kz = 40 by omega]) h
def mcL (U : Nat → Int32) (wr : Nat) : Nat → Nat → (Nat → Int32) → (Nat → Int32)
  | 0, _, X => X
  | N + 1, i, X => if wr ≤ i then X else mcL U wr N (i + 1) (upd X i (U i))
def mkL (PD : Nat → Int32) (dg kz : Nat) : Nat → Nat → (Nat → Int32) → (Nat → Int32)
  | 0, _, KP => KP
  | N + 1, i, KP => if dg ≤ i then KP else mkL PD dg kz N (i + 1) (upd KP (256 * kz + i) (PD i))
