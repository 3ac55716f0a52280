-- THE ORDER: the class's walk, the reference's count, the new one's place
theorem kl_bfL {PT : Nat → Int32} {a b la lb : Nat} (ha : la ≤ 240) (hb : lb ≤ 240) : ∀ (N i : Nat), i + N = min la lb → (∀ j, j < i → PT (a * 242 + j) = PT (b * 242 + j)) →
    (bfL PT a b la lb N i = true ↔ (∃ i, i < la ∧ i < lb ∧ (∀ j, j < i → PT (a * 242 + j) = PT (b * 242 + j)) ∧ PT (a * 242 + i) < PT (b * 242 + i)) ∨ ((∀ j, j < la → j < lb → PT (a * 242 + j) = PT (b * 242 + j)) ∧ la < lb)) := by
  have e0 : (∀ j, j < la → j < lb → PT (a * 242 + j) = PT (b * 242 + j)) → (decide (¬ nI lb ≤ nI la) = true ↔ (∃ i, i < la ∧ i < lb ∧ (∀ j, j < i → PT (a * 242 + j) = PT (b * 242 + j)) ∧ PT (a * 242 + i) < PT (b * 242 + i)) ∨ ((∀ j, j < la → j < lb → PT (a * 242 + j) = PT (b * 242 + j)) ∧ la < lb)) := by
    intro h
    simp (disch := omega) only [decide_eq_true_eq, nI_leI]
    constructor
    · intro q; exact Or.inr ⟨h, by omega⟩
    · rintro (⟨i, i1, i2, i3, i4⟩ | ⟨-, q⟩)
      · rw [h i i1 i2, Int32.lt_iff_toInt_lt] at i4; omega
      · omega
  intro N
  induction N with
  | zero => intro i h hj; exact e0 (fun j h1 h2 => hj j (by omega))
  | succ N ih =>
    intro i h hj
    have e : bfL PT a b la lb (N + 1) i = if min la lb ≤ i then decide (¬ nI lb ≤ nI la) else if PT (a * 242 + i) = PT (b * 242 + i) then bfL PT a b la lb N (i + 1) else if PT (b * 242 + i) ≤ PT (a * 242 + i) then false else true := rfl
    rw [e, if_neg (by omega)]
    by_cases c : PT (a * 242 + i) = PT (b * 242 + i)
    · rw [if_pos c]
      exact ih (i + 1) (by omega) (fun j h => by
        by_cases e : j = i
        · subst e; exact c
        · exact hj j (by omega))
    · rw [if_neg c]
      by_cases c2 : PT (b * 242 + i) ≤ PT (a * 242 + i)
      · rw [if_pos c2]
        simp only [Bool.false_eq_true, false_iff, not_or]
        refine ⟨?_, ?_⟩
        · rintro ⟨t, i1, i2, i3, i4⟩
          rw [Int32.lt_iff_toInt_lt] at i4
          rw [Int32.le_iff_toInt_le] at c2
          by_cases q : t < i
          · rw [hj t q] at i4; omega
          · by_cases q2 : i < t
            · exact c (i3 i q2)
            · have : t = i := by omega
              subst this; omega
        · rintro ⟨h1, -⟩
          exact c (h1 i (by omega) (by omega))
      · rw [if_neg c2]
        simp only [true_iff]
        exact Or.inl ⟨i, by omega, by omega, hj, Int32.not_le.mp c2⟩
theorem kl_befK {WS : Nat → Int64} {PT : Nat → Int32} {l : Nat → Nat} {a b : Nat} (ha : l a ≤ 240) (hb : l b ≤ 240) (hab : b < a) :
    befK WS PT a b (l a) (l b) = true ↔ kl_lt WS (fun a i => PT (a * 242 + i)) l a b := by
  unfold befK kl_lt
  simp only [lg_cmp_eq, lg_cmp_ge]
  by_cases h0 : WS a = WS b
  · rw [if_pos h0]
    have nl' : ¬ WS b < WS b := by rw [Int64.lt_iff_toInt_lt]; omega
    simp only [h0, nl', false_or, true_and]
    rw [kl_bfL ha hb (min (l a) (l b)) 0 (by omega) (fun j h => absurd h (by omega))]
    have : (l a < l b ∨ l a = l b ∧ a < b) ↔ l a < l b := ⟨fun h => by omega, Or.inl⟩
    rw [this]
  · rw [if_neg h0]
    simp only [h0, false_and, or_false]
    by_cases c : WS b ≤ WS a
    · rw [if_pos c]
      simp only [Bool.false_eq_true, false_iff]
      exact lg_le_not_lt c
    · rw [if_neg c]
      simp only [true_iff]
      rcases lg_tri (WS a) (WS b) with h | h | h
      · exact h
      · exact absurd h h0
      · exact absurd (Int64.le_of_lt h) c
def cf (B : Nat → Bool) : Nat → Nat → Nat
  | 0, _ => 0
  | N + 1, j => (if B j then 1 else 0) + cf B N (j + 1)
theorem cf_congr {B B' : Nat → Bool} : ∀ (N j : Nat), (∀ t, j ≤ t → t < j + N → B t = B' t) → cf B N j = cf B' N j := by
  intro N
  induction N with
  | zero => intro j _; rfl
  | succ N ih =>
    intro j h
    show (if B j then 1 else 0) + cf B N (j + 1) = (if B' j then 1 else 0) + cf B' N (j + 1)
    rw [h j (by omega) (by omega), ih (j + 1) (fun t h1 h2 => h t (by omega) (by omega))]
theorem cf_last {B : Nat → Bool} : ∀ (N j : Nat), cf B (N + 1) j = cf B N j + (if B (j + N) then 1 else 0) := by
  intro N
  induction N with
  | zero => intro j; show (if B j then 1 else 0) + 0 = 0 + (if B (j + 0) then 1 else 0); rw [Nat.add_zero j]; omega
  | succ N ih =>
    intro j
    have e1 : cf B (N + 1 + 1) j = (if B j then 1 else 0) + cf B (N + 1) (j + 1) := rfl
    have e2 : cf B (N + 1) j = (if B j then 1 else 0) + cf B N (j + 1) := rfl
    rw [e1, e2, ih (j + 1), show j + 1 + N = j + (N + 1) by omega]
    omega
theorem cf_le {B : Nat → Bool} : ∀ (N j : Nat), cf B N j ≤ N := by
  intro N
  induction N with
  | zero => intro j; exact Nat.le_refl _
  | succ N ih =>
    intro j
    have := ih (j + 1)
    show (if B j then 1 else 0) + cf B N (j + 1) ≤ N + 1
    split <;> omega
theorem cf_one {B B' : Nat → Bool} {a T : Nat} (hB : ∀ t, t < T → ¬ t = a → B' t = B t) (h1 : B a = false) (h2 : B' a = true) : ∀ (N j : Nat), j ≤ a → a < j + N → j + N ≤ T → cf B' N j = cf B N j + 1 := by
  intro N
  induction N with
  | zero => intro j h1 h2; omega
  | succ N ih =>
    intro j hj hN hT
    have e1 : cf B' (N + 1) j = (if B' j then 1 else 0) + cf B' N (j + 1) := rfl
    have e2 : cf B (N + 1) j = (if B j then 1 else 0) + cf B N (j + 1) := rfl
    rw [e1, e2]
    by_cases c : j = a
    · subst c
      rw [h1, h2, cf_congr N (j + 1) (B := B') (B' := B) (fun t t1 t2 => hB t (by omega) (by omega))]
      simp; omega
    · rw [hB j (by omega) c, ih (j + 1) (by omega) (by omega) (by omega)]; omega
theorem cf_zero {B : Nat → Bool} (h : ∀ t, B t = false) : ∀ (N j : Nat), cf B N j = 0 := by
  intro N
  induction N with
  | zero => intro j; rfl
  | succ N ih =>
    intro j
    show (if B j then 1 else 0) + cf B N (j + 1) = 0
    rw [h j, ih]; rfl
def inq (OD : Nat → Int32) : Nat → Nat → Bool
  | 0, _ => false
  | q + 1, t => inq OD q t || decide (OD q = nI t)
theorem inq_iff {OD : Nat → Int32} {t : Nat} : ∀ q, inq OD q t = true ↔ ∃ i, i < q ∧ OD i = nI t := by
  intro q
  induction q with
  | zero => exact ⟨fun h => absurd h (by simp [inq]), fun ⟨i, h, _⟩ => absurd h (by omega)⟩
  | succ q ih =>
    have e : inq OD (q + 1) t = (inq OD q t || decide (OD q = nI t)) := rfl
    rw [e, Bool.or_eq_true, ih, decide_eq_true_eq]
    constructor
    · rintro (⟨i, h1, h2⟩ | h)
      · exact ⟨i, by omega, h2⟩
      · exact ⟨q, by omega, h⟩
    · rintro ⟨i, h1, h2⟩
      by_cases c : i = q
      · subst c; exact Or.inr h2
      · exact Or.inl ⟨i, by omega, h2⟩
theorem inq_cnt {OD : Nat → Int32} {z : Nat} (hz : z ≤ 40) (h1 : ∀ i, i < z → ∃ a : Nat, OD i = nI a ∧ a < z) (h2 : ∀ i j, i < j → j < z → ¬ OD i = OD j) : ∀ q, q ≤ z → cf (inq OD q) z 0 = q := by
  intro q
  induction q with
  | zero => intro _; exact cf_zero (fun _ => rfl) z 0
  | succ q ih =>
    intro hq
    obtain ⟨a, ea, ha⟩ := h1 q (by omega)
    have hB : ∀ t, t < 40 → ¬ t = a → inq OD (q + 1) t = inq OD q t := by
      intro t h40 ht
      show (inq OD q t || decide (OD q = nI t)) = inq OD q t
      rw [decide_eq_false (fun w => ht (by rw [ea, nI_eq (by omega) (by omega)] at w; exact w.symm)), Bool.or_false]
    have hf : inq OD q a = false := by
      cases hc : inq OD q a
      · rfl
      · obtain ⟨i, i1, i2⟩ := (inq_iff q).mp hc
        exact absurd (i2.trans ea.symm) (h2 i q i1 (by omega))
    rw [cf_one hB hf ((inq_iff (q + 1)).mpr ⟨q, by omega, ea⟩) z 0 (by omega) (by omega) (by omega), ih (by omega)]
theorem kl_cnt {KA : Nat → Int64} {KD KP : Nat → Int32} {kz i : Nat} : ∀ (N j : Nat) (x : Int32), j + N = kz → cntL KA KD KP kz i N j x = x + nI (cf (fun j => mBef KA KP j i (KD j).toNatClampNeg (KD i).toNatClampNeg) N j) := by
  intro N
  induction N with
  | zero => intro j x _; exact (Int32.add_zero x).symm
  | succ N ih =>
    intro j x h
    have e2 : cf (fun j => mBef KA KP j i (KD j).toNatClampNeg (KD i).toNatClampNeg) (N + 1) j = (if mBef KA KP j i (KD j).toNatClampNeg (KD i).toNatClampNeg then 1 else 0) + cf (fun j => mBef KA KP j i (KD j).toNatClampNeg (KD i).toNatClampNeg) N (j + 1) := rfl
    rw [e2]
    cases hm : mBef KA KP j i (KD j).toNatClampNeg (KD i).toNatClampNeg
    · rw [cntL_s0 (by omega) (by rw [hm]; rfl), ih (j + 1) _ (by omega), Int32.add_zero]
      simp
    · rw [cntL_s1 (by omega) (by rw [hm]; decide), ih (j + 1) _ (by omega), Int32.add_assoc, nu_l1, nI_add]
      simp
/-- where the new one goes in -/
theorem kl_ins {WS : Nat → Int64} {LN PT OD : Nat → Int32} {z k : Nat} : ∀ (p : Nat) (O : Nat → Int32), p ≤ z → (∀ i, i < p → O i = OD i) → (∀ i, p ≤ i → i < z → O (i + 1) = OD i) →
    (∀ i, p ≤ i → i < z → befK WS PT z (OD i).toNatClampNeg k (LN (OD i).toNatClampNeg).toNatClampNeg = true) →
    ∃ q, q ≤ z ∧ (∀ i, i < q → insL WS LN PT z k p O i = OD i) ∧ insL WS LN PT z k p O q = nI z ∧ (∀ i, q ≤ i → i < z → insL WS LN PT z k p O (i + 1) = OD i) ∧
      (∀ i, q ≤ i → i < z → befK WS PT z (OD i).toNatClampNeg k (LN (OD i).toNatClampNeg).toNatClampNeg = true) ∧
      (0 < q → befK WS PT z (OD (q - 1)).toNatClampNeg k (LN (OD (q - 1)).toNatClampNeg).toNatClampNeg = false) := by
  intro p
  induction p with
  | zero =>
    intro O h0 h1 h2 h3
    refine ⟨0, by omega, fun i hi => absurd hi (by omega), pk_us, fun i hi hz => ?_, h3, fun q => absurd q (by omega)⟩
    show upd O 0 (nI z) (i + 1) = _
    rw [pk_un (by omega)]; exact h2 i hi hz
  | succ p ih =>
    intro O h0 h1 h2 h3
    have e : insL WS LN PT z k (p + 1) O = if bI (befK WS PT z (O p).toNatClampNeg k (LN (O p).toNatClampNeg).toNatClampNeg) = 0 then upd O (p + 1) (nI z) else insL WS LN PT z k p (upd O (p + 1) (O p)) := rfl
    rw [e, h1 p (by omega)]
    cases hb : befK WS PT z (OD p).toNatClampNeg k (LN (OD p).toNatClampNeg).toNatClampNeg
    · rw [if_pos (show bI false = 0 from rfl)]
      refine ⟨p + 1, h0, fun i hi => ?_, pk_us, fun i hi hz => ?_, h3, fun _ => hb⟩
      · rw [pk_un (by omega)]; exact h1 i hi
      · rw [pk_un (by omega)]; exact h2 i hi hz
    · rw [if_neg (show ¬ bI true = 0 by decide)]
      refine ih (upd O (p + 1) (OD p)) (by omega) (fun i hi => ?_) (fun i hi hz => ?_) (fun i hi hz => ?_)
      · rw [pk_un (by omega)]; exact h1 i (by omega)
      · by_cases c : i = p
        · subst c; exact pk_us
        · rw [pk_un (by omega)]; exact h2 i (by omega) hz
      · by_cases c : i = p
        · subst c; exact hb
        · exact h3 i (by omega) hz
theorem kl_mkL {PD : Nat → Int32} {dg kz : Nat} : ∀ (N i : Nat) (KP : Nat → Int32), dg ≤ i + N → (∀ x, x < 256 * kz + i → mkL PD dg kz N i KP x = KP x) ∧ ∀ t, i ≤ t → t < dg → mkL PD dg kz N i KP (256 * kz + t) = PD t := by
  intro N
  induction N with
  | zero => intro i KP h; exact ⟨fun x _ => rfl, fun t t1 t2 => absurd t2 (by omega)⟩
  | succ N ih =>
    intro i KP h
    have e : mkL PD dg kz (N + 1) i KP = if dg ≤ i then KP else mkL PD dg kz N (i + 1) (upd KP (256 * kz + i) (PD i)) := rfl
    rw [e]
    by_cases c : dg ≤ i
    · rw [if_pos c]; exact ⟨fun x _ => rfl, fun t t1 t2 => absurd t2 (by omega)⟩
    · rw [if_neg c]
      obtain ⟨a, b⟩ := ih (i + 1) (upd KP (256 * kz + i) (PD i)) (by omega)
      refine ⟨fun x hx => ?_, fun t t1 t2 => ?_⟩
      · rw [a x (by omega), pk_un (by omega)]
      · by_cases q : t = i
        · subst q; rw [a _ (by omega), pk_us]
        · exact b t (by omega) t2
