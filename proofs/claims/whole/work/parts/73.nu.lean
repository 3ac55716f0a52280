-- NUMBERS: years, months, days, seconds, as natural numbers
/-- days of a month, as numbers -/
def nLeap (Y : Nat) : Bool := Y % 4 == 0 && (Y % 100 != 0 || Y % 400 == 0)
def nDays (Y M : Nat) : Nat := if M = 2 then (if nLeap Y then 29 else 28) else if M = 4 ∨ M = 6 ∨ M = 9 ∨ M = 11 then 30 else 31
def nTo (Y : Nat) : Nat := 365 * Y + (Y + 3) / 4 - (Y + 99) / 100 + (Y + 399) / 400
def nBefore (Y : Nat) : Nat → Nat
  | 0 => 0
  | 1 => 0
  | M + 2 => nBefore Y (M + 1) + nDays Y (M + 1)
def nDay (Y M D : Nat) : Nat := nTo Y + nBefore Y M + D - 1
theorem nu_l0 : (0 : Int32) = nI 0 := rfl
theorem nu_l1 : (1 : Int32) = nI 1 := rfl
theorem nu_l2 : (2 : Int32) = nI 2 := rfl
theorem nu_l3 : (3 : Int32) = nI 3 := rfl
theorem nu_l4 : (4 : Int32) = nI 4 := rfl
theorem nu_l5 : (5 : Int32) = nI 5 := rfl
theorem nu_l6 : (6 : Int32) = nI 6 := rfl
theorem nu_l7 : (7 : Int32) = nI 7 := rfl
theorem nu_l9 : (9 : Int32) = nI 9 := rfl
theorem nu_l10 : (10 : Int32) = nI 10 := rfl
theorem nu_l11 : (11 : Int32) = nI 11 := rfl
theorem nu_l12 : (12 : Int32) = nI 12 := rfl
theorem nu_l28 : (28 : Int32) = nI 28 := rfl
theorem nu_l29 : (29 : Int32) = nI 29 := rfl
theorem nu_l30 : (30 : Int32) = nI 30 := rfl
theorem nu_l31 : (31 : Int32) = nI 31 := rfl
theorem nu_l48 : (48 : Int32) = nI 48 := rfl
theorem nu_l60 : (60 : Int32) = nI 60 := rfl
theorem nu_l99 : (99 : Int32) = nI 99 := rfl
theorem nu_l100 : (100 : Int32) = nI 100 := rfl
theorem nu_l365 : (365 : Int32) = nI 365 := rfl
theorem nu_l366 : (366 : Int32) = nI 366 := rfl
theorem nu_l399 : (399 : Int32) = nI 399 := rfl
theorem nu_l400 : (400 : Int32) = nI 400 := rfl
theorem nu_l1440 : (1440 : Int32) = nI 1440 := rfl
theorem nu_l3600 : (3600 : Int32) = nI 3600 := rfl
theorem nu_L86400 : (86400 : Int64) = lN 86400 := rfl
theorem nu_L3600 : (3600 : Int64) = lN 3600 := rfl
theorem nu_leap {Y : Nat} (h : Y < 2 ^ 20) : mLeap (nI Y) = nLeap Y := by
  unfold mLeap nLeap
  simp (disch := omega) only [nu_l4, nu_l100, nu_l400, nu_l0, pk_rem, nI_eq]
  by_cases h1 : Y % 4 = 0 <;> by_cases h2 : Y % 100 = 0 <;> by_cases h3 : Y % 400 = 0 <;> simp [h1, h2, h3]
theorem nu_leapY {y : Int32} : leapY y = mLeap y := rfl
theorem nu_days_le (Y M : Nat) : 28 ≤ nDays Y M ∧ nDays Y M ≤ 31 := by
  unfold nDays
  split
  · split <;> omega
  · split <;> omega
theorem nu_mDays {Y M : Nat} (h : Y < 2 ^ 20) (hM : M < 2 ^ 20) : mDays (nI Y) (nI M) = nI (nDays Y M) := by
  unfold mDays nDays
  simp (disch := omega) only [nu_l2, nu_l4, nu_l6, nu_l9, nu_l11, nu_leap h, nI_eq, bI_eq0]
  by_cases h2 : M = 2
  · simp only [h2, if_true]
    cases nLeap Y <;> simp <;> rfl
  · simp only [h2, if_false]
    by_cases h4 : M = 4
    · subst h4; rfl
    · by_cases h6 : M = 6
      · subst h6; rfl
      · by_cases h9 : M = 9
        · subst h9; rfl
        · by_cases h11 : M = 11
          · subst h11; rfl
          · simp only [h4, h6, h9, h11, if_false, or_self]; rfl
theorem nu_mTo {Y : Nat} (h : Y < 20000) : mTo (nI Y) = nI (nTo Y) := by
  unfold mTo nTo
  simp (disch := omega) only [nu_l365, nu_l3, nu_l4, nu_l99, nu_l100, nu_l399, nu_l400, nI_add, pk_mul, pk_div, pk_sub]
theorem nu_to_s (Y : Nat) : nTo (Y + 1) = nTo Y + (if nLeap Y then 366 else 365) := by
  unfold nTo nLeap
  by_cases h1 : Y % 4 = 0 <;> by_cases h2 : Y % 100 = 0 <;> by_cases h3 : Y % 400 = 0 <;> simp [h1, h2, h3] <;> omega
theorem nu_to_mono {Y Z : Nat} (h : Y ≤ Z) : nTo Y ≤ nTo Z := by
  induction Z with
  | zero => have : Y = 0 := by omega
            subst this; exact Nat.le_refl _
  | succ n ih =>
    by_cases hq : Y = n + 1
    · subst hq; exact Nat.le_refl _
    · rw [nu_to_s]; have := ih (by omega); omega
theorem nu_to_le (Y : Nat) : nTo Y ≤ 366 * Y := by unfold nTo; omega
theorem nu_bef_s (Y M : Nat) (h : 1 ≤ M) : nBefore Y (M + 1) = nBefore Y M + nDays Y M := by
  obtain ⟨m, rfl⟩ : ∃ m, M = m + 1 := ⟨M - 1, by omega⟩
  rfl
theorem nu_bef_1 (Y : Nat) : nBefore Y 1 = 0 := rfl
theorem nu_bef_le (Y : Nat) : ∀ M, nBefore Y M ≤ 31 * M := by
  intro M
  induction M with
  | zero => exact Nat.zero_le _
  | succ n ih =>
    by_cases h : 1 ≤ n
    · rw [nu_bef_s Y n h]; have := nu_days_le Y n; omega
    · have : n = 0 := by omega
      subst this; rw [nu_bef_1]; omega
theorem nu_bef_mono (Y : Nat) {M N : Nat} (h0 : 1 ≤ M) (h : M ≤ N) : nBefore Y M ≤ nBefore Y N := by
  induction N with
  | zero => omega
  | succ n ih =>
    by_cases hm : M = n + 1
    · subst hm; exact Nat.le_refl _
    · rw [nu_bef_s Y n (by omega)]; have := ih (by omega); omega
theorem nu_bef_t (Y M : Nat) (h1 : 1 ≤ M) (h2 : M ≤ 13) : nI (nBefore Y M) = dbm (M - 1) + (if 2 < M ∧ nLeap Y = true then 1 else 0) := by
  have hh : M = 1 ∨ M = 2 ∨ M = 3 ∨ M = 4 ∨ M = 5 ∨ M = 6 ∨ M = 7 ∨ M = 8 ∨ M = 9 ∨ M = 10 ∨ M = 11 ∨ M = 12 ∨ M = 13 := by omega
  cases hl : nLeap Y <;> rcases hh with rfl | rfl | rfl | rfl | rfl | rfl | rfl | rfl | rfl | rfl | rfl | rfl | rfl <;> (simp [nBefore, nDays, hl, dbm]; try rfl)
theorem nu_bef13 (Y : Nat) : nBefore Y 13 = if nLeap Y then 366 else 365 := by
  cases hl : nLeap Y <;> simp [nBefore, nDays, hl]
theorem nu_mDyL {Y M : Nat} (hY : Y < 2 ^ 20) (hM : M ≤ 13) : ∀ (N i c : Nat), 1 ≤ i → i ≤ M → M ≤ i + N → mDyL (nI Y) (nI M) N i (nI (c + nBefore Y i)) = nI (c + nBefore Y M) := by
  intro N
  induction N with
  | zero => intro i c h1 h2 h3; have : i = M := by omega
            subst this; rfl
  | succ n ih =>
    intro i c h1 h2 h3
    show (if nI M ≤ nI i then _ else _) = _
    by_cases h : M ≤ i
    · rw [if_pos (nI_le h (by omega))]
      have : i = M := by omega
      subst this; rfl
    · rw [if_neg (nI_ge (by omega) (by omega)), nu_mDays hY (by omega), nI_add]
      have := ih (i + 1) c (by omega) (by omega) (by omega)
      rw [nu_bef_s Y i h1] at this
      rw [← this]; congr 2; omega
theorem nu_mDayOf {Y M D : Nat} (hY : Y < 20000) (h1 : 1 ≤ M) (hM : M ≤ 12) (hD : 1 ≤ D) (hD2 : D ≤ 400) : mDayOf (nI Y) (nI M) (nI D) = nI (nDay Y M D) := by
  unfold mDayOf
  rw [nu_mTo hY, nI_add, nu_l1, pk_sub (by omega)]
  have := nu_mDyL (Y := Y) (M := M) (by omega) (by omega) 12 1 (nTo Y + D - 1) (by omega) h1 (by omega)
  rw [nu_bef_1] at this
  rw [show nTo Y + D - 1 = nTo Y + D - 1 + 0 from rfl, this]
  congr 1; unfold nDay; omega
theorem nu_daysM {Y M : Nat} (hY : Y < 2 ^ 20) (h1 : 1 ≤ M) (h2 : M ≤ 12) : daysM (nI Y) (nI M) = nI (nDays Y M) := by
  have hh : M = 1 ∨ M = 2 ∨ M = 3 ∨ M = 4 ∨ M = 5 ∨ M = 6 ∨ M = 7 ∨ M = 8 ∨ M = 9 ∨ M = 10 ∨ M = 11 ∨ M = 12 := by omega
  unfold daysM nDays
  rw [nu_leapY, nu_leap hY]
  cases nLeap Y <;> rcases hh with rfl | rfl | rfl | rfl | rfl | rfl | rfl | rfl | rfl | rfl | rfl | rfl <;> rfl
theorem nu_dayNo {Y M D : Nat} (hY : Y < 20000) (h1 : 1 ≤ M) (h2 : M ≤ 12) (hD : 1 ≤ D) (hD2 : D ≤ 400) : dayNo (nI Y) (nI M) (nI D) = nI (nDay Y M D) := by
  unfold dayNo
  have e : ((((nI Y) * 365) + ((((nI Y + 3) / 4) - ((nI Y + 99) / 100)) + ((nI Y + 399) / 400))) + nI D) - 1 = nI (nTo Y + D - 1) := by
    unfold nTo
    simp (disch := omega) only [nu_l365, nu_l3, nu_l4, nu_l99, nu_l100, nu_l399, nu_l400, nu_l1, nI_add, pk_mul, pk_div, pk_sub]
    congr 1; omega
  rw [e, nu_leapY, nu_leap (by omega)]
  have k : (nI M - 1).toNatClampNeg = M - 1 := by rw [nu_l1, pk_sub h1, nI_clamp (by omega)]
  rw [if_neg (show ¬ nI M < 1 from nI_nlt (b := 1) h1 (by omega)), if_neg (show ¬ 12 < nI M from nI_nlt (a := 12) h2 (by omega)), k]
  have t := nu_bef_t Y M h1 (by omega)
  have f : nI (nDay Y M D) = nI (nTo Y + D - 1) + nI (nBefore Y M) := by rw [nI_add]; congr 1; unfold nDay; omega
  rw [f, t]
  by_cases h : M ≤ 2
  · rw [if_pos (show nI M ≤ 2 from nI_le (b := 2) h (by omega)), if_neg (by omega), Int32.add_zero]
  · rw [if_neg (show ¬ nI M ≤ 2 from nI_ge (a := 2) (by omega) (by omega))]
    cases hl : nLeap Y
    · rw [if_pos (show bI false = 0 from rfl), if_neg (by simp), Int32.add_zero]
    · rw [if_neg (by decide), if_pos ⟨by omega, rfl⟩, Int32.add_assoc]
theorem nu_day_b (Y M D : Nat) (h1 : 1 ≤ M) (h2 : M ≤ 12) (hD : 1 ≤ D) (hD2 : D ≤ nDays Y M) : nTo Y ≤ nDay Y M D ∧ nDay Y M D < nTo (Y + 1) := by
  have a := nu_bef_mono Y (M := M + 1) (N := 13) (by omega) (by omega)
  rw [nu_bef_s Y M h1, nu_bef13] at a
  have b := nu_to_s Y
  unfold nDay; omega
theorem nu_day_lt {Y M D : Nat} (hY : Y < 20000) (h2 : M ≤ 12) (hD : D ≤ 31) : nDay Y M D < 2 ^ 23 := by
  have a := nu_to_le Y
  have b := nu_bef_le Y M
  unfold nDay; omega
theorem nu_wSecs {Y M D h m s : Nat} (hY : Y < 20000) (h1 : 1 ≤ M) (h2 : M ≤ 12) (hD : 1 ≤ D) (hD2 : D ≤ 31) (hh : h < 100) (hm : m < 100) (hs : s < 100) :
    wSecs (nI Y) (nI M) (nI D) (nI h) (nI m) (nI s) = lN (86400 * nDay Y M D + 3600 * h + 60 * m + s) := by
  have b := nu_day_lt hY h2 hD2
  unfold wSecs
  rw [nu_dayNo hY h1 h2 hD (by omega)]
  simp (disch := omega) only [nu_l3600, nu_l60, pk_mul, nI_l, nu_L86400, lN_mul, lN_add]
  congr 1; omega
theorem nu_yrL {Y nd : Nat} (hY : Y < 10000) (h1 : nTo Y ≤ nd) (h2 : nd < nTo (Y + 1)) : ∀ (N y0 : Nat), y0 ≤ Y → Y - y0 < N → yrL (nI nd) N (nI y0) = some (nI Y) := by
  have hb := nu_to_le (Y + 1)
  intro N
  induction N with
  | zero => intro y0 _ h; omega
  | succ n ih =>
    intro y0 hy hN
    show (if nI nd < mTo (nI y0 + 1) then _ else _) = _
    rw [nI_1, nu_mTo (by omega)]
    have hb2 := nu_to_le (y0 + 1)
    by_cases h : nd < nTo (y0 + 1)
    · rw [if_pos (nI_lt h (by omega))]
      have : ¬ y0 + 1 ≤ Y := fun q => by have := nu_to_mono q; omega
      have : y0 = Y := by omega
      subst this; rfl
    · rw [if_neg (nI_nlt (by omega) (by omega))]
      have : y0 ≠ Y := fun q => by subst q; omega
      exact ih (y0 + 1) (by omega) (by omega)
theorem nu_yr {Y nd : Nat} (hY : Y < 10000) (h1 : nTo Y ≤ nd) (h2 : nd < nTo (Y + 1)) : yrL (nI nd) 10100 (nI nd / 366) = some (nI Y) := by
  have hb := nu_to_le (Y + 1)
  rw [nu_l366, pk_div (by omega) (by omega) (by omega)]
  exact nu_yrL hY h1 h2 10100 (nd / 366) (by omega) (by omega)
theorem nu_moL {Y M D : Nat} (hY : Y < 10000) (hM : M ≤ 12) (hD : 1 ≤ D) (hD2 : D ≤ nDays Y M) : ∀ (N n : Nat), 1 ≤ n → n ≤ M → M - n < N → moL (nI Y) N (nI (nBefore Y M + D - 1 - nBefore Y n)) (nI n) = some (nI M) := by
  have hd := nu_days_le Y M
  have hb := nu_bef_le Y M
  intro N
  induction N with
  | zero => intro n _ _ h; omega
  | succ N ih =>
    intro n h1 h2 h3
    show (if nI (nBefore Y M + D - 1 - nBefore Y n) < mDays (nI Y) (nI n) then _ else _) = _
    rw [nu_mDays (by omega) (by omega)]
    have hd2 := nu_days_le Y n
    by_cases h : n = M
    · subst h
      rw [if_pos (nI_lt (by omega) (by omega))]
    · have a := nu_bef_mono Y (M := n + 1) (N := M) (by omega) (by omega)
      rw [nu_bef_s Y n h1] at a
      rw [if_neg (nI_nlt (by omega) (by omega)), nI_1, pk_sub (by omega)]
      have := ih (n + 1) (by omega) (by omega) (by omega)
      rw [nu_bef_s Y n h1] at this
      rw [← this]; congr 2; omega
theorem nu_u {Y M D h m s : Nat} (hY : Y < 10000) (h1 : 1 ≤ M) (h2 : M ≤ 12) (hD : 1 ≤ D) (hD2 : D ≤ nDays Y M) (hh : h < 24) (hm : m < 60) (hs : s < 60) :
    mDay (lN (86400 * nDay Y M D + 3600 * h + 60 * m + s)) = nI (nDay Y M D) ∧
    (yrL (nI (nDay Y M D)) 10100 (nI (nDay Y M D) / 366)) = some (nI Y) ∧ yrF (nI (nDay Y M D)) = nI Y ∧
    (moL (nI Y) 13 (nI (nDay Y M D) - mTo (nI Y)) 1) = some (nI M) ∧ moF (lN (86400 * nDay Y M D + 3600 * h + 60 * m + s)) = nI M ∧
    (lN (86400 * nDay Y M D + 3600 * h + 60 * m + s) - lN (86400 * nDay Y M D + 3600 * h + 60 * m + s) / 86400 * 86400).toInt32 = nI (3600 * h + 60 * m + s) := by
  have hd := nu_days_le Y M
  have b := nu_day_lt (Y := Y) (M := M) (D := D) (by omega) h2 (by omega)
  obtain ⟨c1, c2⟩ := nu_day_b Y M D h1 h2 hD hD2
  have e1 : mDay (lN (86400 * nDay Y M D + 3600 * h + 60 * m + s)) = nI (nDay Y M D) := by
    unfold mDay
    rw [nu_L86400, pk_lDiv (by omega) (by omega) (by omega), lN_i]; congr 1; omega
  have e2 := nu_yr hY c1 c2
  have e3 : yrF (nI (nDay Y M D)) = nI Y := by unfold yrF; rw [e2]; rfl
  have e4 : (moL (nI Y) 13 (nI (nDay Y M D) - mTo (nI Y)) 1) = some (nI M) := by
    rw [nu_mTo (by omega), pk_sub c1]
    have := nu_moL (Y := Y) (M := M) (D := D) hY h2 hD hD2 13 1 (by omega) h1 (by omega)
    rw [nu_bef_1] at this
    rw [← this]
    congr 2; unfold nDay; omega
  refine ⟨e1, e2, e3, e4, ?_, ?_⟩
  · unfold moF; rw [e1, e3, e4]; rfl
  · rw [nu_L86400, pk_lRem (by omega) (by omega) (by omega), lN_i]; congr 1; omega
/-- the reference's units of a time are the class's -/
theorem nu_unit {Y M D h m s dg : Nat} (hY : Y < 10000) (h1 : 1 ≤ M) (h2 : M ≤ 12) (hD : 1 ≤ D) (hD2 : D ≤ nDays Y M) (hh : h < 24) (hm : m < 60) (hs : s < 60) :
    mUnit (lN (86400 * nDay Y M D + 3600 * h + 60 * m + s)) dg 0 = nI Y ∧ mUnit (lN (86400 * nDay Y M D + 3600 * h + 60 * m + s)) dg 1 = nI M ∧
    mUnit (lN (86400 * nDay Y M D + 3600 * h + 60 * m + s)) dg 2 = nI D ∧ mUnit (lN (86400 * nDay Y M D + 3600 * h + 60 * m + s)) dg 3 = nI h ∧
    mUnit (lN (86400 * nDay Y M D + 3600 * h + 60 * m + s)) dg 4 = nI m ∧ mUnit (lN (86400 * nDay Y M D + 3600 * h + 60 * m + s)) dg 5 = nI s ∧
    mUnit (lN (86400 * nDay Y M D + 3600 * h + 60 * m + s)) dg 6 = nI dg ∧ mUnit (lN (86400 * nDay Y M D + 3600 * h + 60 * m + s)) dg 7 = dayWk (nI Y) (nI M) (nI D) := by
  have hd := nu_days_le Y M
  have b := nu_day_lt (Y := Y) (M := M) (D := D) (by omega) h2 (by omega)
  obtain ⟨e1, e2, e3, e4, e5, e6⟩ := nu_u hY h1 h2 hD hD2 hh hm hs
  refine ⟨?_, ?_, ?_, ?_, ?_, ?_, ?_, ?_⟩ <;> unfold mUnit
  · rw [if_pos rfl, e1, e3]
  · rw [if_neg (by decide), if_pos rfl, e5]
  · rw [if_neg (by decide), if_neg (by decide), if_pos rfl, e1, e3, e5, nu_l1, nu_mDayOf (by omega) h1 h2 (by omega) (by omega), pk_sub (by unfold nDay; omega), nI_add]
    congr 1; unfold nDay; omega
  · rw [if_neg (by decide), if_neg (by decide), if_neg (by decide), if_pos rfl, e6, nu_l3600, pk_div (by omega) (by omega) (by omega)]
    congr 1; omega
  · rw [if_neg (by decide), if_neg (by decide), if_neg (by decide), if_neg (by decide), if_pos rfl, e6, nu_l60, pk_div (by omega) (by omega) (by omega), pk_rem (by omega) (by omega) (by omega)]
    congr 1; omega
  · rw [if_neg (by decide), if_neg (by decide), if_neg (by decide), if_neg (by decide), if_neg (by decide), if_pos rfl, e6, nu_l60, pk_rem (by omega) (by omega) (by omega)]
    congr 1; omega
  · rw [if_neg (by decide), if_neg (by decide), if_neg (by decide), if_neg (by decide), if_neg (by decide), if_neg (by decide), if_pos rfl]
  · rw [if_neg (by decide), if_neg (by decide), if_neg (by decide), if_neg (by decide), if_neg (by decide), if_neg (by decide), if_neg (by decide), e1]
    unfold dayWk; rw [nu_dayNo (by omega) h1 h2 hD (by omega)]
