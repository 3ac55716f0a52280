-- PARTS: digits behind the sign, times sixty
def pd_ok (g : Nat → Int32) (k : Nat) : Prop := ∀ i, i < k → ∃ q : Nat, q < 10 ∧ g i = nI q
theorem pt_i8 {n : Nat} (h : n < 128) : (nI n).toInt8.toInt32 = nI n := lg_i2b_small (by rw [nI_toInt (by omega)]; omega) (by rw [nI_toInt (by omega)]; omega)
theorem pt_nar {n : Nat} (h : n < 128) : vp_nar .byte (nI n).toInt8.toInt32 = nI n := by rw [pk_vb, pt_i8 h]
theorem pt_sx {g : Nat → Int32} {j q a : Nat} (hg : g j = nI q) (hq : q < 10) (ha : a < 2 ^ 20) : sxL (j + 1) g (nI a) = sxL j (upd g j (nI ((q * 60 + a) % 10))) (nI ((q * 60 + a) / 10)) := by
  show sxL j (upd g j (vp_nar .byte (((g j * 60) + nI a) - ((g j * 60) + nI a) / 10 * 10).toInt8.toInt32)) (((g j * 60) + nI a) / 10) = _
  rw [hg]
  simp only [nu_l60, nu_l10, pk_mul, nI_add]
  rw [pk_rem (by omega) (by omega) (by omega), pk_div (by omega) (by omega) (by omega), pt_nar (by omega)]
theorem pt_sm {g : Nat → Int32} {j q a u : Nat} (hg : g j = nI q) (hq : q < 10) (ha : a < 2 ^ 20) (hu : u < 2 ^ 20) : smL (nI u) (j + 1) g (nI a) = smL (nI u) j (upd g j (nI ((q * u + a) % 10))) (nI ((q * u + a) / 10)) := by
  show smL (nI u) j (upd g j (((g j * nI u) + nI a) - ((g j * nI u) + nI a) / 10 * 10)) (((g j * nI u) + nI a) / 10) = _
  have : q * u < 10 * 2 ^ 20 := Nat.mul_lt_mul'' hq hu
  rw [hg]
  simp only [nu_l10, pk_mul, nI_add]
  rw [pk_rem (by omega) (by omega) (by omega), pk_div (by omega) (by omega) (by omega)]
theorem pt_sx_far : ∀ (j : Nat) (g : Nat → Int32) (a : Int32) (i : Nat), j ≤ i → (sxL j g a).1 i = g i := by
  intro j
  induction j with
  | zero => intro g a i _; rfl
  | succ n ih => intro g a i h; exact (ih _ _ i (by omega)).trans (pk_un (by omega))
theorem pt_sm_far (u : Int32) : ∀ (j : Nat) (g : Nat → Int32) (a : Int32) (i : Nat), j ≤ i → (smL u j g a).1 i = g i := by
  intro j
  induction j with
  | zero => intro g a i _; rfl
  | succ n ih => intro g a i h; exact (ih _ _ i (by omega)).trans (pk_un (by omega))
theorem pt_sx_loc : ∀ (j : Nat) (g g' : Nat → Int32) (a : Int32), (∀ i, i < j → g i = g' i) → (sxL j g a).2 = (sxL j g' a).2 ∧ ∀ i, i < j → (sxL j g a).1 i = (sxL j g' a).1 i := by
  intro j
  induction j with
  | zero => intro g g' a h; exact ⟨rfl, fun i hi => absurd hi (by omega)⟩
  | succ n ih =>
    intro g g' a h
    have hn := h n (by omega)
    have := ih (upd g n (vp_nar .byte (((g n * 60) + a) - ((g n * 60) + a) / 10 * 10).toInt8.toInt32)) (upd g' n (vp_nar .byte (((g' n * 60) + a) - ((g' n * 60) + a) / 10 * 10).toInt8.toInt32)) (((g n * 60) + a) / 10) (fun i hi => by rw [pk_un (by omega), pk_un (by omega)]; exact h i (by omega))
    have e : sxL (n + 1) g a = sxL n (upd g n (vp_nar .byte (((g n * 60) + a) - ((g n * 60) + a) / 10 * 10).toInt8.toInt32)) (((g n * 60) + a) / 10) := rfl
    have e' : sxL (n + 1) g' a = sxL n (upd g' n (vp_nar .byte (((g' n * 60) + a) - ((g' n * 60) + a) / 10 * 10).toInt8.toInt32)) (((g' n * 60) + a) / 10) := rfl
    rw [e, e', ← hn] at *
    refine ⟨this.1, fun i hi => ?_⟩
    by_cases hin : i < n
    · exact this.2 i hin
    · have : i = n := by omega
      subst this
      rw [pt_sx_far _ _ _ _ (Nat.le_refl _), pt_sx_far _ _ _ _ (Nat.le_refl _), pk_us, pk_us]
theorem pt_sm_loc (u : Int32) : ∀ (j : Nat) (g g' : Nat → Int32) (a : Int32), (∀ i, i < j → g i = g' i) → (smL u j g a).2 = (smL u j g' a).2 ∧ ∀ i, i < j → (smL u j g a).1 i = (smL u j g' a).1 i := by
  intro j
  induction j with
  | zero => intro g g' a h; exact ⟨rfl, fun i hi => absurd hi (by omega)⟩
  | succ n ih =>
    intro g g' a h
    have hn := h n (by omega)
    have := ih (upd g n (((g n * u) + a) - ((g n * u) + a) / 10 * 10)) (upd g' n (((g' n * u) + a) - ((g' n * u) + a) / 10 * 10)) (((g n * u) + a) / 10) (fun i hi => by rw [pk_un (by omega), pk_un (by omega)]; exact h i (by omega))
    have e : smL u (n + 1) g a = smL u n (upd g n (((g n * u) + a) - ((g n * u) + a) / 10 * 10)) (((g n * u) + a) / 10) := rfl
    have e' : smL u (n + 1) g' a = smL u n (upd g' n (((g' n * u) + a) - ((g' n * u) + a) / 10 * 10)) (((g' n * u) + a) / 10) := rfl
    rw [e, e', ← hn] at *
    refine ⟨this.1, fun i hi => ?_⟩
    by_cases hin : i < n
    · exact this.2 i hin
    · have : i = n := by omega
      subst this
      rw [pt_sm_far _ _ _ _ _ (Nat.le_refl _), pt_sm_far _ _ _ _ _ (Nat.le_refl _), pk_us, pk_us]
theorem pd_upd {g : Nat → Int32} {j x : Nat} (h : pd_ok g (j + 1)) (hx : x < 10) : pd_ok (upd g j (nI x)) (j + 1) := by
  intro i hi
  by_cases e : i = j
  · subst e; exact ⟨x, hx, pk_us⟩
  · rw [pk_un e]; exact h i hi
theorem pd_less {g : Nat → Int32} {j k : Nat} (h : pd_ok g k) (hj : j ≤ k) : pd_ok g j := fun i hi => h i (by omega)
/-- sixty times: the digits stay digits, the carry is less than sixty -/
theorem pt_sx_b : ∀ (j : Nat) (g : Nat → Int32) (a : Nat), pd_ok g j → a < 60 → (∃ c : Nat, c < 60 ∧ (sxL j g (nI a)).2 = nI c) ∧ pd_ok (sxL j g (nI a)).1 j := by
  intro j
  induction j with
  | zero => intro g a _ ha; exact ⟨⟨a, ha, rfl⟩, fun i hi => absurd hi (by omega)⟩
  | succ n ih =>
    intro g a hg ha
    obtain ⟨q, hq, e⟩ := hg n (by omega)
    rw [pt_sx e hq (by omega)]
    have hu := pd_upd (x := (q * 60 + a) % 10) hg (by omega)
    obtain ⟨h1, h2⟩ := ih (upd g n (nI ((q * 60 + a) % 10))) ((q * 60 + a) / 10) (pd_less hu (by omega)) (by omega)
    refine ⟨h1, fun i hi => ?_⟩
    by_cases hin : i < n
    · exact h2 i hin
    · rw [pt_sx_far _ _ _ _ (by omega)]; exact hu i hi
/-- once sixty times -/
theorem pt_60 : ∀ (j : Nat) (g P : Nat → Int32) (a : Nat), pd_ok g j → (∀ i, i < j → P i = g i) → a < 60 → (smL (nI 60) j P (nI a)).2 = (sxL j g (nI a)).2 ∧ ∀ i, i < j → (smL (nI 60) j P (nI a)).1 i = (sxL j g (nI a)).1 i := by
  intro j
  induction j with
  | zero => intro g P a _ _ _; exact ⟨rfl, fun i hi => absurd hi (by omega)⟩
  | succ n ih =>
    intro g P a hg hP ha
    obtain ⟨q, hq, e⟩ := hg n (by omega)
    rw [pt_sx e hq (by omega), pt_sm ((hP n (by omega)).trans e) hq (by omega) (by omega)]
    have hu := pd_upd (x := (q * 60 + a) % 10) hg (by omega)
    obtain ⟨h1, h2⟩ := ih (upd g n (nI ((q * 60 + a) % 10))) (upd P n (nI ((q * 60 + a) % 10))) ((q * 60 + a) / 10) (pd_less hu (by omega)) (fun i hi => by rw [pk_un (by omega), pk_un (by omega)]; exact hP i (by omega)) (by omega)
    refine ⟨h1, fun i hi => ?_⟩
    by_cases hin : i < n
    · exact h2 i hin
    · have : i = n := by omega
      subst this
      rw [pt_sx_far _ _ _ _ (Nat.le_refl _), pt_sm_far _ _ _ _ _ (Nat.le_refl _), pk_us, pk_us]
/-- once -/
theorem pt_1 : ∀ (j : Nat) (P : Nat → Int32), pd_ok P j → (smL (nI 1) j P (nI 0)).2 = nI 0 ∧ ∀ i, i < j → (smL (nI 1) j P (nI 0)).1 i = P i := by
  intro j
  induction j with
  | zero => intro P _; exact ⟨rfl, fun i hi => absurd hi (by omega)⟩
  | succ n ih =>
    intro P hg
    obtain ⟨q, hq, e⟩ := hg n (by omega)
    rw [pt_sm e hq (by omega) (by omega), show (q * 1 + 0) / 10 = 0 by omega, show (q * 1 + 0) % 10 = q by omega]
    have hu := pd_upd (x := q) hg hq
    obtain ⟨h1, h2⟩ := ih (upd P n (nI q)) (pd_less hu (by omega))
    refine ⟨h1, fun i hi => ?_⟩
    by_cases hin : i < n
    · rw [h2 i hin, pk_un (by omega)]
    · have : i = n := by omega
      subst this
      rw [pt_sm_far _ _ _ _ _ (Nat.le_refl _), pk_us, e]
/-- sixty times sixty times -/
theorem pt_3600 : ∀ (j : Nat) (g P : Nat → Int32) (a b : Nat), pd_ok g j → (∀ i, i < j → P i = g i) → a < 60 → b < 60 →
    (∃ c d : Nat, c < 60 ∧ d < 60 ∧ (sxL j g (nI a)).2 = nI c ∧ (sxL j (sxL j g (nI a)).1 (nI b)).2 = nI d ∧ (smL (nI 3600) j P (nI (60 * a + b))).2 = nI (60 * c + d)) ∧
    ∀ i, i < j → (smL (nI 3600) j P (nI (60 * a + b))).1 i = (sxL j (sxL j g (nI a)).1 (nI b)).1 i := by
  intro j
  induction j with
  | zero => intro g P a b _ _ ha hb; exact ⟨⟨a, b, ha, hb, rfl, rfl, rfl⟩, fun i hi => absurd hi (by omega)⟩
  | succ n ih =>
    intro g P a b hg hP ha hb
    obtain ⟨q, hq, e⟩ := hg n (by omega)
    rw [pt_sx e hq (by omega), pt_sm ((hP n (by omega)).trans e) hq (by omega) (by omega)]
    have hHn : (sxL n (upd g n (nI ((q * 60 + a) % 10))) (nI ((q * 60 + a) / 10))).1 n = nI ((q * 60 + a) % 10) := by rw [pt_sx_far _ _ _ _ (Nat.le_refl _), pk_us]
    rw [pt_sx hHn (by omega) (by omega)]
    have e1 : (q * 3600 + (60 * a + b)) % 10 = ((q * 60 + a) % 10 * 60 + b) % 10 := by omega
    have e2 : (q * 3600 + (60 * a + b)) / 10 = 60 * ((q * 60 + a) / 10) + ((q * 60 + a) % 10 * 60 + b) / 10 := by omega
    rw [e1, e2]
    have hb2 : ((q * 60 + a) % 10 * 60 + b) / 10 < 60 := by omega
    have hy : ((q * 60 + a) % 10 * 60 + b) % 10 < 10 := by omega
    have hx : (q * 60 + a) % 10 < 10 := by omega
    have ha2 : (q * 60 + a) / 10 < 60 := by omega
    generalize ((q * 60 + a) % 10 * 60 + b) % 10 = y at *
    generalize ((q * 60 + a) % 10 * 60 + b) / 10 = b' at *
    generalize (q * 60 + a) % 10 = x at *
    generalize (q * 60 + a) / 10 = a' at *
    obtain ⟨⟨c, d, hc, hd, i1, i2, i3⟩, i4⟩ := ih g (upd P n (nI y)) a' b' (pd_less hg (by omega)) (fun i hi => by rw [pk_un (by omega)]; exact hP i (by omega)) ha2 hb2
    have l1 := pt_sx_loc n (upd g n (nI x)) g (nI a') (fun i hi => pk_un (by omega))
    have l2 := pt_sx_loc n (upd (sxL n (upd g n (nI x)) (nI a')).1 n (nI y)) (sxL n g (nI a')).1 (nI b') (fun i hi => by rw [pk_un (by omega)]; exact l1.2 i hi)
    refine ⟨⟨c, d, hc, hd, l1.1.trans i1, l2.1.trans i2, i3⟩, fun i hi => ?_⟩
    by_cases hin : i < n
    · rw [i4 i hin, l2.2 i hin]
    · have : i = n := by omega
      subst this
      rw [pt_sx_far _ _ _ _ (Nat.le_refl _), pt_sm_far _ _ _ _ _ (Nat.le_refl _), pk_us, pk_us]
theorem pt_st_c {g g' : Nat → Int32} : ∀ (k : Nat), (∀ i, i < k → g i = g' i) → stL g k = stL g' k := by
  intro k
  induction k with
  | zero => intro _; rfl
  | succ n ih =>
    intro h
    show (if g n = 0 then stL g n else n + 1) = (if g' n = 0 then stL g' n else n + 1)
    rw [h n (by omega), ih (fun i hi => h i (by omega))]
theorem pt_st_0 {g : Nat → Int32} {k : Nat} (h : g k = 0) : stL g (k + 1) = stL g k := if_pos h
theorem pt_last1 {g : Nat → Int32} {k : Nat} (hg : pd_ok g k) : stL (sxL k g (nI 0)).1 k ≤ k - 1 := by
  cases k with
  | zero => exact Nat.le_refl _
  | succ j =>
    obtain ⟨q, hq, e⟩ := hg j (by omega)
    rw [pt_sx e hq (by omega), pt_st_0]
    · exact stL_le _ _
    · rw [pt_sx_far _ _ _ _ (Nat.le_refl _), pk_us, show (q * 60 + 0) % 10 = 0 by omega]; rfl
theorem pt_last2 {g : Nat → Int32} {k : Nat} (hg : pd_ok g k) : stL (sxL k (sxL k g (nI 0)).1 (nI 0)).1 k ≤ k - 2 := by
  cases k with
  | zero => exact Nat.le_refl _
  | succ j =>
    have hd := (pt_sx_b (j + 1) g 0 hg (by omega)).2
    obtain ⟨q, hq, e⟩ := hg j (by omega)
    have e0 : (sxL (j + 1) g (nI 0)).1 j = nI 0 := by rw [pt_sx e hq (by omega), pt_sx_far _ _ _ _ (Nat.le_refl _), pk_us, show (q * 60 + 0) % 10 = 0 by omega]
    rw [pt_sx e0 (by omega) (by omega), show (0 * 60 + 0) / 10 = 0 by omega, show (0 * 60 + 0) % 10 = 0 by omega, pt_st_0 (by rw [pt_sx_far _ _ _ _ (Nat.le_refl _), pk_us]; rfl)]
    cases j with
    | zero => exact Nat.le_refl _
    | succ i =>
      obtain ⟨p, hp, e2⟩ := hd i (by omega)
      have e3 : (upd (sxL (i + 1 + 1) g (nI 0)).1 (i + 1) (nI 0)) i = nI p := by rw [pk_un (by omega)]; exact e2
      rw [pt_sx e3 hp (by omega), pt_st_0]
      · have := stL_le (sxL i (upd (upd (sxL (i + 1 + 1) g (nI 0)).1 (i + 1) (nI 0)) i (nI ((p * 60 + 0) % 10))) (nI ((p * 60 + 0) / 10))).1 i; omega
      · rw [pt_sx_far _ _ _ _ (Nat.le_refl _), pk_us, show (p * 60 + 0) % 10 = 0 by omega]; rfl
