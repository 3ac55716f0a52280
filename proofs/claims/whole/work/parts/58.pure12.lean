/-- how far two parts are the same -/
def mbL (KP : Nat → Int32) (la lb a b : Nat) : Nat → Nat → Nat
  | 0, i => i
  | N + 1, i => if la ≤ i then i else if lb ≤ i then i else if KP (256 * a + i) = KP (256 * b + i) then mbL KP la lb a b N (i + 1) else i
theorem mbL_s {KP : Nat → Int32} {la lb a b N i : Nat} (h1 : ¬ la ≤ i) (h2 : ¬ lb ≤ i) (h3 : KP (256 * a + i) = KP (256 * b + i)) : mbL KP la lb a b (N + 1) i = mbL KP la lb a b N (i + 1) := (if_neg h1).trans ((if_neg h2).trans (if_pos h3))
theorem mbL_a {KP : Nat → Int32} {la lb a b N i : Nat} (h1 : la ≤ i) : mbL KP la lb a b N i = i := by
  cases N with
  | zero => rfl
  | succ N => exact if_pos h1
theorem mbL_b {KP : Nat → Int32} {la lb a b N i : Nat} (h1 : lb ≤ i) : mbL KP la lb a b N i = i := by
  cases N with
  | zero => rfl
  | succ N =>
    unfold mbL
    by_cases h : la ≤ i
    · rw [if_pos h]
    · rw [if_neg h, if_pos h1]
theorem mbL_n {KP : Nat → Int32} {la lb a b N i : Nat} (h3 : ¬ KP (256 * a + i) = KP (256 * b + i)) : mbL KP la lb a b N i = i := by
  cases N with
  | zero => rfl
  | succ N =>
    unfold mbL
    by_cases h : la ≤ i
    · rw [if_pos h]
    · rw [if_neg h]
      by_cases h2 : lb ≤ i
      · rw [if_pos h2]
      · rw [if_neg h2, if_neg h3]
def mBfT (KP : Nat → Int32) (la lb a b i : Nat) : Bool :=
  if nI la ≤ nI i then (if nI la = nI lb then (if nI b ≤ nI a then false else true) else (if nI lb ≤ nI la then false else true))
  else if nI lb ≤ nI i then (if nI la = nI lb then (if nI b ≤ nI a then false else true) else (if nI lb ≤ nI la then false else true))
  else if KP (256 * b + i) ≤ KP (256 * a + i) then false else true
def mBef (KA : Nat → Int64) (KP : Nat → Int32) (a b la lb : Nat) : Bool :=
  if lg_cmp (KA a) (KA b) = 0 then mBfT KP la lb a b (mbL KP la lb a b 250 0) else if 0 ≤ lg_cmp (KA a) (KA b) then false else true
