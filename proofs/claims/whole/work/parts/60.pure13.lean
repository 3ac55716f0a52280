/-- how many are before the i-th, from the j-th on -/
def cntL (KA : Nat → Int64) (KD KP : Nat → Int32) (kz i : Nat) : Nat → Nat → Int32 → Int32
  | 0, _, x => x
  | N + 1, j, x => if kz ≤ j then x else if bI (mBef KA KP j i (KD j).toNatClampNeg (KD i).toNatClampNeg) = 0 then cntL KA KD KP kz i N (j + 1) (x + 0) else cntL KA KD KP kz i N (j + 1) (x + 1)
theorem cntL_e {KA : Nat → Int64} {KD KP : Nat → Int32} {kz i N j : Nat} {x : Int32} (h : kz ≤ j) : cntL KA KD KP kz i (N + 1) j x = x := if_pos h
theorem cntL_s0 {KA : Nat → Int64} {KD KP : Nat → Int32} {kz i N j : Nat} {x : Int32} (h : ¬ kz ≤ j) (h2 : bI (mBef KA KP j i (KD j).toNatClampNeg (KD i).toNatClampNeg) = 0) : cntL KA KD KP kz i (N + 1) j x = cntL KA KD KP kz i N (j + 1) (x + 0) := (if_neg h).trans (if_pos h2)
theorem cntL_s1 {KA : Nat → Int64} {KD KP : Nat → Int32} {kz i N j : Nat} {x : Int32} (h : ¬ kz ≤ j) (h2 : ¬ bI (mBef KA KP j i (KD j).toNatClampNeg (KD i).toNatClampNeg) = 0) : cntL KA KD KP kz i (N + 1) j x = cntL KA KD KP kz i N (j + 1) (x + 1) := (if_neg h).trans (if_neg h2)
def moLp (KA : Nat → Int64) (KD KP : Nat → Int32) (kz : Nat) (p1 : Int32) : Nat → Nat → Int32
  | 0, _ => -1
  | N + 1, i => if kz ≤ i then -1 else if cntL KA KD KP kz i kz 0 (nI 0) = p1 then nI i else moLp KA KD KP kz p1 N (i + 1)
