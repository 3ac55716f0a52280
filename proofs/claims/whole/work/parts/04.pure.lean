-- THE CLASS'S OWN STEPS AS FUNCTIONS (a row of bytes: contents f, length n)
def bI (b : Bool) : Int32 := if b then 1 else 0
theorem bI_t : bI true = 1 := rfl
theorem bI_f : bI false = 0 := rfl
theorem bI_eq0 {b : Bool} : bI b = 0 ↔ b = false := by cases b <;> decide
theorem bI_nar {v : Int32} {b : Bool} (h : v = bI b) : narrow .boolean (.int v) = .int v := by subst h; cases b <;> rfl
def dbm : Nat → Int32 := fun j => ([0, 31, 59, 90, 120, 151, 181, 212, 243, 273, 304, 334, 365] : List Int32).getD j 0
def rApp (f : Nat → Int32) (n : Nat) (v : Int32) : (Nat → Int32) × Nat := if n < 242 then (upd f n v.toInt8.toInt32, n + 1) else (f, n)
theorem rApp_le {f : Nat → Int32} {n : Nat} {v : Int32} (h : n ≤ 242) : (rApp f n v).2 ≤ 242 := by
  unfold rApp
  split
  · show n + 1 ≤ 242; omega
  · exact h
def rAp (ρ : (Nat → Int32) × Nat) (v : Int32) : (Nat → Int32) × Nat := rApp ρ.1 ρ.2 v
def rFour (f : Nat → Int32) (n : Nat) (w : Int32) : (Nat → Int32) × Nat :=
  rAp (rAp (rAp (rAp (f, n) ((w.toUInt32 >>> ((24 : Int32).toUInt32 &&& Int32.toUInt32 31)).toInt32)) ((w.toUInt32 >>> ((16 : Int32).toUInt32 &&& Int32.toUInt32 31)).toInt32)) ((w.toUInt32 >>> ((8 : Int32).toUInt32 &&& Int32.toUInt32 31)).toInt32)) w
theorem rFour_le {f : Nat → Int32} {n : Nat} {v : Int32} (h : n ≤ 242) : (rFour f n v).2 ≤ 242 := rApp_le (rApp_le (rApp_le (rApp_le h)))
def rPair (f : Nat → Int32) (n : Nat) (v : Int32) : (Nat → Int32) × Nat := rAp (rAp (f, n) (48 + v / 10)) (48 + (v - v / 10 * 10))
theorem rPair_le {f : Nat → Int32} {n : Nat} {v : Int32} (h : n ≤ 242) : (rPair f n v).2 ≤ 242 := rApp_le (rApp_le h)
theorem kb_lt {n N : Nat} (h : ¬ nI N ≤ nI n) (hn : n < 2 ^ 31) : n < N := by
  rcases Nat.lt_or_ge n N with q | q
  · exact q
  · exact absurd (nI_le q hn) h
theorem kb_ge {n N : Nat} (h : nI N ≤ nI n) (hN : N < 2 ^ 31) : ¬ n < N := fun q => nI_ge q hN h
theorem kb_in {i : Int32} {n N : Nat} (h0 : ¬ i < 0) (h1 : ¬ nI n ≤ i) (hn : n ≤ N) (hN : N < 2 ^ 31) : vp_in i N := by
  obtain ⟨j, hj, rfl⟩ := nI_of h0
  exact vp_in_nI (Nat.lt_of_lt_of_le (kb_lt h1 hj) hn) hN
theorem kb_m1 (x : Int32) : x + (-1) = x - 1 := (Int32.sub_eq_add_neg x 1).symm
theorem kb_mo {x : Int32} (h1 : ¬ x < 1) (h2 : x ≤ 12) : vp_in x 13 ∧ vp_in (x - 1) 13 := by
  rw [Int32.lt_iff_toInt_lt] at h1
  rw [Int32.le_iff_toInt_le] at h2
  have e1 : (1 : Int32).toInt = 1 := by decide
  have e2 : (12 : Int32).toInt = 12 := by decide
  rw [e1] at h1
  rw [e2] at h2
  obtain ⟨j, hj, rfl⟩ : ∃ j : Nat, j ≤ 11 ∧ x = nI (j + 1) := by
    refine ⟨x.toInt.toNat - 1, by omega, Int32.toInt_inj.mp ?_⟩
    rw [nI_toInt (by omega)]
    omega
  rw [nI_pred]
  exact ⟨vp_in_nI (by omega) (by decide), vp_in_nI (by omega) (by decide)⟩
theorem kb_mo' {x : Int32} (h1 : ¬ x < 1) (h2 : ¬ 12 < x) : vp_in (x - 1) 13 := (kb_mo h1 (Int32.not_lt.mp h2)).2
/-- the part sixtyfold: from its last digit on -/
def sxL : Nat → (Nat → Int32) → Int32 → (Nat → Int32) × Int32
  | 0, g, cy => (g, cy)
  | j + 1, g, cy => sxL j (upd g j (vp_nar .byte (((g j * 60) + cy) - ((g j * 60) + cy) / 10 * 10).toInt8.toInt32)) (((g j * 60) + cy) / 10)
/-- the part's length without noughts at its end -/
def stL (g : Nat → Int32) : Nat → Nat
  | 0 => 0
  | k + 1 => if g k = 0 then stL g k else k + 1
theorem stL_le (g : Nat → Int32) (k : Nat) : stL g k ≤ k := by
  induction k with
  | zero => exact Nat.le_refl 0
  | succ k ih => unfold stL; split; omega; omega
theorem kb_min {a b : Nat} (ha : a < 2 ^ 31) (hb : b < 2 ^ 31) : (if nI b < nI a then nI b else nI a) = nI (min a b) := by
  by_cases h : b < a
  · rw [if_pos (nI_lt h ha), Nat.min_eq_right (by omega)]
  · rw [if_neg (nI_nlt (by omega) hb), Nat.min_eq_left (by omega)]
/-- parts from the digit i on: which of the two is less -/
def bfL (PT : Nat → Int32) (a b la lb : Nat) : Nat → Nat → Bool
  | 0, _ => decide (¬ nI lb ≤ nI la)
  | N + 1, i => if min la lb ≤ i then decide (¬ nI lb ≤ nI la) else if PT (a * 242 + i) = PT (b * 242 + i) then bfL PT a b la lb N (i + 1) else if PT (b * 242 + i) ≤ PT (a * 242 + i) then false else true
def befK (WS : Nat → Int64) (PT : Nat → Int32) (a b la lb : Nat) : Bool :=
  if lg_cmp (WS a) (WS b) = 0 then bfL PT a b la lb (min la lb) 0 else if 0 ≤ lg_cmp (WS a) (WS b) then false else true
/-- the new number z goes into the order, from place q down -/
def insL (WS : Nat → Int64) (LN PT : Nat → Int32) (z k : Nat) : Nat → (Nat → Int32) → (Nat → Int32)
  | 0, OD => upd OD 0 (nI z)
  | q + 1, OD => if bI (befK WS PT z (OD q).toNatClampNeg k (LN (OD q).toNatClampNeg).toNatClampNeg) = 0 then upd OD (q + 1) (nI z) else insL WS LN PT z k q (upd OD (q + 1) (OD q))
/-- the part's digits behind what is written -/
def wrL (g : Nat → Int32) (k : Nat) : Nat → Nat → (Nat → Int32) → Nat → (Nat → Int32) × Nat
  | 0, _, fw, nw => (fw, nw)
  | N + 1, i, fw, nw => if k ≤ i then (fw, nw) else wrL g k N (i + 1) (rApp fw nw (48 + g i)).1 (rApp fw nw (48 + g i)).2
theorem kb_ltt {n N : Nat} (h : nI n < nI N) (hn : n < 2 ^ 31) : n < N := Decidable.byContradiction (fun q => nI_nlt (Nat.not_lt.mp q) hn h)
theorem kb_end {p1 : Int32} {nt : Nat} (h1 : ¬ p1 < 0) (h2 : p1 ≤ 16) (h3 : 16 ≤ nI nt) (hn : nt ≤ 242) : (nI nt) - 16 + p1 = nI (nt - 16 + p1.toNatClampNeg) := by
  obtain ⟨j, hj, rfl⟩ := nI_of h1
  have h4 : 16 ≤ nt := (nI_leI (a := 16) (by decide) (by omega)).mp h3
  rw [nI_clamp hj, show (16 : Int32) = nI 16 from rfl, pk_sub h4, nI_add]
