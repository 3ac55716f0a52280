-- pure facts that speak of rByte, rDigit
theorem rByte_next {f : Nat → Int32} {n : Nat} {x b : Int32} (h : rByte f n x = b) (hb : ¬ b = -1) (hn : n ≤ 242) : x + 1 = nI (x + 1).toNatClampNeg ∧ (x + 1).toNatClampNeg ≤ n := by
  unfold rByte at h
  split at h
  · exact absurd h.symm hb
  · rename_i h0
    split at h
    · exact absurd h.symm hb
    · rename_i h1
      obtain ⟨j, hj, rfl⟩ := nI_of h0
      have hlt : j < n := kb_lt h1 hj
      rw [nI_1, nI_clamp (by omega)]
      exact ⟨rfl, hlt⟩
def ptL (f : Nat → Int32) (n : Nat) : Nat → Nat → (Nat → Int32) → Nat → Nat × (Nat → Int32) × Nat
  | 0, t, g, k => (t, g, k)
  | N + 1, t, g, k => if n ≤ t then (t, g, k) else if rDigit f n (nI t) = -1 then (t, g, k) else ptL f n N (t + 1) (rApp g k (rDigit f n (nI t))).1 (rApp g k (rDigit f n (nI t))).2
theorem ptL_le {f : Nat → Int32} {n : Nat} : ∀ (N t : Nat) (g : Nat → Int32) (k : Nat), k ≤ 242 → (ptL f n N t g k).2.2 ≤ 242 := by
  intro N
  induction N with
  | zero => intro t g k hk; exact hk
  | succ N ih =>
    intro t g k hk
    unfold ptL
    split
    · exact hk
    · split
      · exact hk
      · exact ih _ _ _ (rApp_le hk)
def cpL (fw : Nat → Int32) (nw : Nat) : Nat → Nat → (Nat → Int32) → Nat → (Nat → Int32) × Nat
  | 0, _, ft, nt => (ft, nt)
  | N + 1, i, ft, nt => if nw ≤ i then (ft, nt) else cpL fw nw N (i + 1) (rApp ft nt (rByte fw nw (nI i))).1 (rApp ft nt (rByte fw nw (nI i))).2
