-- THE ORDER of kept times
def kl_lt (A : Nat → Int64) (P : Nat → Nat → Int32) (l : Nat → Nat) (a b : Nat) : Prop :=
  A a < A b ∨ (A a = A b ∧ ((∃ i, i < l a ∧ i < l b ∧ (∀ j, j < i → P a j = P b j) ∧ P a i < P b i) ∨ ((∀ j, j < l a → j < l b → P a j = P b j) ∧ (l a < l b ∨ (l a = l b ∧ a < b)))))
theorem kl_tri (A : Nat → Int64) (P : Nat → Nat → Int32) (l : Nat → Nat) (a b : Nat) (h : ¬ a = b) : kl_lt A P l a b ∨ kl_lt A P l b a := by
  unfold kl_lt
  rcases lg_tri (A a) (A b) with h1 | h1 | h1
  · exact Or.inl (Or.inl h1)
  · have h2 := h1.symm
    by_cases hd : ∃ i, i < l a ∧ i < l b ∧ ¬ P a i = P b i
    · obtain ⟨i, ⟨hi1, hi2, hi3⟩, hm⟩ := pk_least (fun i => i < l a ∧ i < l b ∧ ¬ P a i = P b i) hd
      have he : ∀ j, j < i → P a j = P b j := fun j hj => Decidable.byContradiction (fun q => hm j hj ⟨by omega, by omega, q⟩)
      by_cases hc : P a i < P b i
      · exact Or.inl (Or.inr ⟨h1, Or.inl ⟨i, hi1, hi2, he, hc⟩⟩)
      · refine Or.inr (Or.inr ⟨h2, Or.inl ⟨i, hi2, hi1, fun j hj => (he j hj).symm, ?_⟩⟩)
        have := Int32.not_lt.mp hc
        rw [Int32.lt_iff_toInt_lt]
        rw [Int32.le_iff_toInt_le] at this
        have n : ¬ (P a i).toInt = (P b i).toInt := fun q => hi3 (Int32.toInt_inj.mp q)
        omega
    · have he : ∀ j, j < l a → j < l b → P a j = P b j := fun j h1 h2 => Decidable.byContradiction (fun q => hd ⟨j, h1, h2, q⟩)
      have he' : ∀ j, j < l b → j < l a → P b j = P a j := fun j h1 h2 => (he j h2 h1).symm
      by_cases c : l a < l b ∨ (l a = l b ∧ a < b)
      · exact Or.inl (Or.inr ⟨h1, Or.inr ⟨he, c⟩⟩)
      · exact Or.inr (Or.inr ⟨h2, Or.inr ⟨he', by omega⟩⟩)
  · exact Or.inr (Or.inl h1)
theorem kl_asym (A : Nat → Int64) (P : Nat → Nat → Int32) (l : Nat → Nat) (a b : Nat) (h : kl_lt A P l a b) : ¬ kl_lt A P l b a := by
  intro g
  unfold kl_lt at h g
  simp only [Int64.lt_iff_toInt_lt, Int32.lt_iff_toInt_lt] at h g
  rcases h with h | ⟨h0, h⟩
  · rcases g with g | ⟨g0, g⟩
    · omega
    · rw [g0] at h; omega
  · rcases g with g | ⟨g0, g⟩
    · rw [h0] at g; omega
    · rcases h with ⟨i, i1, i2, i3, i4⟩ | ⟨h1, h2⟩
      · rcases g with ⟨j, j1, j2, j3, j4⟩ | ⟨g1, g2⟩
        · by_cases c : i < j
          · rw [j3 i c] at i4; omega
          · by_cases c2 : j < i
            · rw [i3 j c2] at j4; omega
            · have : i = j := by omega
              subst this; omega
        · rw [g1 i i2 i1] at i4; omega
      · rcases g with ⟨j, j1, j2, j3, j4⟩ | ⟨g1, g2⟩
        · rw [h1 j j2 j1] at j4; omega
        · omega
theorem kl_trans (A : Nat → Int64) (P : Nat → Nat → Int32) (l : Nat → Nat) (a b c : Nat) (h : kl_lt A P l a b) (g : kl_lt A P l b c) : kl_lt A P l a c := by
  unfold kl_lt at h g ⊢
  simp only [Int64.lt_iff_toInt_lt, Int32.lt_iff_toInt_lt] at h g ⊢
  rcases h with h | ⟨h0, h⟩
  · left
    rcases g with g | ⟨g0, g⟩
    · omega
    · rw [← g0]; exact h
  · rcases g with g | ⟨g0, g⟩
    · left; rw [h0]; exact g
    · right
      refine ⟨h0.trans g0, ?_⟩
      rcases h with ⟨i, i1, i2, i3, i4⟩ | ⟨h1, h2⟩
      · rcases g with ⟨j, j1, j2, j3, j4⟩ | ⟨g1, g2⟩
        · by_cases q : i < j
          · exact Or.inl ⟨i, i1, by omega, fun t ht => (i3 t ht).trans (j3 t (by omega)), by rw [← j3 i q]; exact i4⟩
          · by_cases q2 : j < i
            · exact Or.inl ⟨j, by omega, j2, fun t ht => (i3 t (by omega)).trans (j3 t ht), by rw [i3 j q2]; exact j4⟩
            · have : i = j := by omega
              subst this
              exact Or.inl ⟨i, i1, j2, fun t ht => (i3 t ht).trans (j3 t ht), by omega⟩
        · exact Or.inl ⟨i, i1, by omega, fun t ht => (i3 t ht).trans (g1 t (by omega) (by omega)), by rw [← g1 i i2 (by omega)]; exact i4⟩
      · rcases g with ⟨j, j1, j2, j3, j4⟩ | ⟨g1, g2⟩
        · by_cases q : j < l a
          · exact Or.inl ⟨j, q, j2, fun t ht => (h1 t (by omega) (by omega)).trans (j3 t ht), by rw [h1 j q j1]; exact j4⟩
          · exact Or.inr ⟨fun t t1 t2 => (h1 t t1 (by omega)).trans (j3 t (by omega)), Or.inl (by omega)⟩
        · exact Or.inr ⟨fun t t1 t2 => (h1 t t1 (by omega)).trans (g1 t (by omega) t2), by omega⟩
/-- only what stands at the two numbers counts -/
theorem kl_congr {A A' : Nat → Int64} {P P' : Nat → Nat → Int32} {l l' : Nat → Nat} {a b : Nat} (ha : A a = A' a) (hb : A b = A' b) (la : l a = l' a) (lb : l b = l' b) (pa : ∀ j, j < l a → P a j = P' a j) (pb : ∀ j, j < l b → P b j = P' b j) : kl_lt A P l a b ↔ kl_lt A' P' l' a b := by
  unfold kl_lt
  rw [← ha, ← hb, ← la, ← lb]
  constructor
  · rintro (h | ⟨h0, ⟨i, i1, i2, i3, i4⟩ | ⟨h1, h2⟩⟩)
    · exact Or.inl h
    · exact Or.inr ⟨h0, Or.inl ⟨i, i1, i2, fun j hj => by rw [← pa j (by omega), ← pb j (by omega)]; exact i3 j hj, by rw [← pa i i1, ← pb i i2]; exact i4⟩⟩
    · exact Or.inr ⟨h0, Or.inr ⟨fun j j1 j2 => by rw [← pa j j1, ← pb j j2]; exact h1 j j1 j2, h2⟩⟩
  · rintro (h | ⟨h0, ⟨i, i1, i2, i3, i4⟩ | ⟨h1, h2⟩⟩)
    · exact Or.inl h
    · exact Or.inr ⟨h0, Or.inl ⟨i, i1, i2, fun j hj => by rw [pa j (by omega), pb j (by omega)]; exact i3 j hj, by rw [pa i i1, pb i i2]; exact i4⟩⟩
    · exact Or.inr ⟨h0, Or.inr ⟨fun j j1 j2 => by rw [pa j j1, pb j j2]; exact h1 j j1 j2, h2⟩⟩
/-- where the reference's walk along two parts ends -/
theorem kl_mbL {KP : Nat → Int32} {la lb a b : Nat} : ∀ (N i : Nat), min la lb < i + N → (∀ j, j < i → KP (256 * a + j) = KP (256 * b + j)) → i ≤ min la lb →
    ∃ e, mbL KP la lb a b N i = e ∧ e ≤ min la lb ∧ (∀ j, j < e → KP (256 * a + j) = KP (256 * b + j)) ∧ (e < min la lb → ¬ KP (256 * a + e) = KP (256 * b + e)) := by
  intro N
  induction N with
  | zero => intro i h; omega
  | succ N ih =>
    intro i h hj hi
    show ∃ e, (if la ≤ i then i else if lb ≤ i then i else if KP (256 * a + i) = KP (256 * b + i) then mbL KP la lb a b N (i + 1) else i) = e ∧ _
    by_cases c1 : la ≤ i
    · rw [if_pos c1]; exact ⟨i, rfl, hi, hj, fun q => by omega⟩
    · rw [if_neg c1]
      by_cases c2 : lb ≤ i
      · rw [if_pos c2]; exact ⟨i, rfl, hi, hj, fun q => by omega⟩
      · rw [if_neg c2]
        by_cases c3 : KP (256 * a + i) = KP (256 * b + i)
        · rw [if_pos c3]
          exact ih (i + 1) (by omega) (fun j h => by
            by_cases e : j = i
            · subst e; exact c3
            · exact hj j (by omega)) (by omega)
        · rw [if_neg c3]; exact ⟨i, rfl, hi, hj, fun _ => c3⟩
theorem kl_mBef {KA : Nat → Int64} {KP : Nat → Int32} {l : Nat → Nat} {a b : Nat} (ha : l a ≤ 240) (hb : l b ≤ 240) (ha2 : a < 2 ^ 20) (hb2 : b < 2 ^ 20) :
    mBef KA KP a b (l a) (l b) = true ↔ kl_lt KA (fun a i => KP (256 * a + i)) l a b := by
  unfold mBef kl_lt
  simp only [lg_cmp_eq, lg_cmp_ge]
  by_cases h0 : KA a = KA b
  · rw [if_pos h0]
    have nl : ¬ KA a < KA b := by rw [h0, Int64.lt_iff_toInt_lt]; omega
    simp only [nl, h0, false_or, true_and]
    have nl' : ¬ KA b < KA b := by rw [Int64.lt_iff_toInt_lt]; omega
    simp only [nl', false_or]
    obtain ⟨e, he, he1, he2, he3⟩ := kl_mbL (KP := KP) (la := l a) (lb := l b) (a := a) (b := b) 250 0 (by omega) (fun j h => absurd h (by omega)) (by omega)
    rw [he]
    unfold mBfT
    simp (disch := omega) only [nI_leI, nI_eq]
    by_cases c : e < min (l a) (l b)
    · rw [if_neg (by omega), if_neg (by omega)]
      have hne := he3 c
      by_cases c2 : KP (256 * b + e) ≤ KP (256 * a + e)
      · rw [if_pos c2]
        simp only [Bool.false_eq_true, false_iff, not_or]
        refine ⟨?_, ?_⟩
        · rintro ⟨i, i1, i2, i3, i4⟩
          rw [Int32.lt_iff_toInt_lt] at i4
          rw [Int32.le_iff_toInt_le] at c2
          by_cases q : i < e
          · rw [he2 i q] at i4; omega
          · by_cases q2 : e < i
            · exact hne (i3 e q2)
            · have : i = e := by omega
              subst this; omega
        · rintro ⟨h1, -⟩
          exact hne (h1 e (by omega) (by omega))
      · rw [if_neg c2]
        simp only [true_iff]
        exact Or.inl ⟨e, by omega, by omega, he2, Int32.not_le.mp c2⟩
    · have ee : e = min (l a) (l b) := by omega
      have hall : ∀ j, j < l a → j < l b → KP (256 * a + j) = KP (256 * b + j) := fun j h1 h2 => he2 j (by omega)
      have key : ((if l a = l b then (if b ≤ a then false else true) else (if l b ≤ l a then false else true)) = true) ↔ (l a < l b ∨ (l a = l b ∧ a < b)) := by
        by_cases c1 : l a = l b
        · rw [if_pos c1]
          by_cases c2 : b ≤ a
          · rw [if_pos c2]; simp; omega
          · rw [if_neg c2]; simp; omega
        · rw [if_neg c1]
          by_cases c2 : l b ≤ l a
          · rw [if_pos c2]; simp; omega
          · rw [if_neg c2]; simp; omega
      have fin : (if l a ≤ e then (if l a = l b then (if b ≤ a then false else true) else (if l b ≤ l a then false else true)) else if l b ≤ e then (if l a = l b then (if b ≤ a then false else true) else (if l b ≤ l a then false else true)) else if KP (256 * b + e) ≤ KP (256 * a + e) then false else true) = (if l a = l b then (if b ≤ a then false else true) else (if l b ≤ l a then false else true)) := by
        by_cases c1 : l a ≤ e
        · rw [if_pos c1]
        · rw [if_neg c1, if_pos (by omega)]
      rw [fin, key]
      constructor
      · intro h; exact Or.inr ⟨hall, h⟩
      · rintro (⟨i, i1, i2, i3, i4⟩ | ⟨-, h⟩)
        · rw [hall i i1 i2, Int32.lt_iff_toInt_lt] at i4; omega
        · exact h
  · rw [if_neg h0]
    simp only [h0, false_and, or_false]
    by_cases c : KA b ≤ KA a
    · rw [if_pos c]
      simp only [Bool.false_eq_true, false_iff]
      exact lg_le_not_lt c
    · rw [if_neg c]
      simp only [true_iff]
      rcases lg_tri (KA a) (KA b) with h | h | h
      · exact h
      · exact absurd h h0
      · exact absurd (Int64.le_of_lt h) c
