-- READING: moving by the zone, the range, all of it
theorem rd_on {Y M D : Nat} (hY : Y < 10000) (h1 : 1 ≤ M) (h2 : M ≤ 12) (hD : 1 ≤ D) (hD2 : D ≤ nDays Y M) :
    ∃ Y' M' D' : Nat, Y' ≤ 10000 ∧ 1 ≤ M' ∧ M' ≤ 12 ∧ 1 ≤ D' ∧ D' ≤ nDays Y' M' ∧ nDay Y' M' D' = nDay Y M D + 1 ∧ dayOn (nI Y) (nI M) (nI D) = (nI Y', nI M', nI D') := by
  have hd := nu_days_le Y M
  unfold dayOn
  rw [nu_daysM (by omega) h1 h2, nI_1, nI_1]
  by_cases c : D + 1 ≤ nDays Y M
  · rw [if_neg (nI_nlt c (by omega))]
    exact ⟨Y, M, D + 1, by omega, h1, h2, by omega, c, by unfold nDay; omega, rfl⟩
  · rw [if_pos (nI_lt (by omega) (by omega))]
    by_cases c2 : M + 1 ≤ 12
    · rw [if_pos (show nI (M + 1) ≤ 12 from nI_le (b := 12) c2 (by omega))]
      have := nu_days_le Y (M + 1)
      exact ⟨Y, M + 1, 1, by omega, by omega, c2, by omega, by omega, by unfold nDay; rw [nu_bef_s Y M h1]; omega, rfl⟩
    · rw [if_neg (show ¬ nI (M + 1) ≤ 12 from nI_ge (a := 12) (by omega) (by omega)), nI_1]
      have := nu_days_le (Y + 1) 1
      have hM : M = 12 := by omega
      subst hM
      have e := nu_bef_s Y 12 (by omega)
      rw [nu_bef13] at e
      have t := nu_to_s Y
      exact ⟨Y + 1, 1, 1, by omega, by omega, by omega, by omega, by omega, by unfold nDay; rw [nu_bef_1]; omega, rfl⟩
theorem rd_back {Y M D : Nat} (hY : Y < 10000) (h1 : 1 ≤ M) (h2 : M ≤ 12) (hD : 1 ≤ D) (hD2 : D ≤ nDays Y M) :
    (∃ Y' M' D' : Nat, Y' ≤ Y ∧ 1 ≤ M' ∧ M' ≤ 12 ∧ 1 ≤ D' ∧ D' ≤ nDays Y' M' ∧ nDay Y' M' D' + 1 = nDay Y M D ∧ dayBack (nI Y) (nI M) (nI D) = (nI Y', nI M', nI D')) ∨
    (nDay Y M D = 0 ∧ (dayBack (nI Y) (nI M) (nI D)).1 = -1) := by
  have hd := nu_days_le Y M
  unfold dayBack
  rw [nu_l1, pk_sub hD, pk_sub h1, nu_l0]
  by_cases c : 2 ≤ D
  · left
    rw [if_neg (nI_ge (by omega) (by omega))]
    exact ⟨Y, M, D - 1, by omega, h1, h2, by omega, by omega, by unfold nDay; omega, rfl⟩
  · have hD1 : D = 1 := by omega
    subst hD1
    rw [if_pos (nI_le (by omega) (by omega))]
    by_cases c2 : 2 ≤ M
    · left
      obtain ⟨m, rfl⟩ : ∃ m, M = m + 1 := ⟨M - 1, by omega⟩
      rw [if_neg (show ¬ nI (m + 1 - 1) = nI 0 from fun q => by rw [nI_eq (by omega) (by omega)] at q; omega), show m + 1 - 1 = m from rfl, nu_daysM (by omega) (by omega) (by omega)]
      have := nu_days_le Y m
      exact ⟨Y, m, nDays Y m, by omega, by omega, by omega, by omega, by omega, by unfold nDay; rw [nu_bef_s Y m (by omega)]; omega, rfl⟩
    · have hM1 : M = 1 := by omega
      subst hM1
      rw [if_pos rfl]
      cases Y with
      | zero => right; exact ⟨rfl, rfl⟩
      | succ y =>
        left
        have e0 : nI (y + 1) - nI 1 = nI y := by rw [pk_sub (by omega)]; rfl
        have e1 : daysM (nI y) 12 = nI (nDays y 12) := nu_daysM (M := 12) (by omega) (by omega) (by omega)
        rw [e0, e1]
        have := nu_days_le y 12
        have e := nu_bef_s y 12 (by omega)
        rw [nu_bef13] at e
        have t := nu_to_s y
        exact ⟨y, 12, nDays y 12, by omega, by omega, by omega, by omega, by omega, by unfold nDay; rw [nu_bef_1]; omega, rfl⟩
/-- what moving gives: a new time, or a year before the first -/
theorem rd_move {Y M D h m s : Nat} {V W : Int32} (hY : Y < 10000) (h1 : 1 ≤ M) (h2 : M ≤ 12) (hD : 1 ≤ D) (hD2 : D ≤ nDays Y M) (hh : h < 24) (hm : m < 60) (hs : s < 60) (hZ : rd_Z V W) :
    (∃ Y' M' D' h' m' : Nat, Y' ≤ 10000 ∧ 1 ≤ M' ∧ M' ≤ 12 ∧ 1 ≤ D' ∧ D' ≤ nDays Y' M' ∧ h' < 24 ∧ m' < 60 ∧ movBy (nI Y) (nI M) (nI D) (nI h) (nI m) (-V) = (nI Y', nI M', nI D', nI h', nI m') ∧
      (((86400 * (mDayOf (nI Y) (nI M) (nI D)).toInt64) + (3600 * (nI h).toInt64)) + (nI (60 * m + s)).toInt64) - W.toInt64 = lN (86400 * nDay Y' M' D' + 3600 * h' + 60 * m' + s)) ∨
    ((movBy (nI Y) (nI M) (nI D) (nI h) (nI m) (-V)).1 = -1 ∧ (((86400 * (mDayOf (nI Y) (nI M) (nI D)).toInt64) + (3600 * (nI h).toInt64)) + (nI (60 * m + s)).toInt64) - W.toInt64 < lN 0) := by
  have hd := nu_days_le Y M
  have hb := nu_day_lt (Y := Y) (M := M) (D := D) (by omega) h2 (by omega)
  have hS : ((86400 * (mDayOf (nI Y) (nI M) (nI D)).toInt64) + (3600 * (nI h).toInt64)) + (nI (60 * m + s)).toInt64 = lN (86400 * nDay Y M D + 3600 * h + 60 * m + s) := by
    rw [nu_mDayOf (by omega) h1 h2 hD (by omega)]
    simp (disch := omega) only [nI_l, nu_L86400, nu_L3600, lN_mul, lN_add]
    congr 1; omega
  have hA : nI h * 60 + nI m = nI (60 * h + m) := by rw [nu_l60, pk_mul, nI_add]; congr 1; omega
  rw [hS]
  obtain ⟨zz, hz, ⟨rfl, rfl⟩ | ⟨rfl, rfl⟩⟩ := hZ
  · have hW : (nI (60 * zz)).toInt64 = lN (60 * zz) := nI_l (by omega)
    rw [hW]
    unfold movBy
    rw [hA, ← Int32.sub_eq_add_neg]
    by_cases c : zz ≤ 60 * h + m
    · left
      rw [pk_sub c, if_pos (show 0 ≤ nI (60 * h + m - zz) from nI_pos' (by omega)), if_pos (show nI (60 * h + m - zz) < 1440 from nI_lt (b := 1440) (by omega) (by omega)), nu_l60, pk_div (by omega) (by omega) (by omega), lN_sub (by omega)]
      refine ⟨Y, M, D, (60 * h + m - zz) / 60, (60 * h + m - zz) % 60, by omega, h1, h2, hD, hD2, by omega, by omega, ?_, ?_⟩
      · rw [pk_mul, pk_sub (by omega)]; congr 5; omega
      · congr 1; omega
    · have hneg : nI (60 * h + m) - nI zz < 0 := pk_sneg (by omega) (by omega)
      rw [if_neg (show ¬ 0 ≤ nI (60 * h + m) - nI zz from fun q => absurd hneg (Int32.not_lt.mpr q))]
      have es : nI (60 * h + m) - nI zz + 1440 = nI (60 * h + m + 1440 - zz) := by
        rw [Int32.sub_eq_add_neg, Int32.add_assoc, Int32.add_comm (-nI zz), ← Int32.add_assoc, ← Int32.sub_eq_add_neg, nu_l1440, nI_add, pk_sub (by omega)]
      rw [es]
      dsimp only
      rcases rd_back hY h1 h2 hD hD2 with ⟨Y', M', D', a1, a2, a3, a4, a5, a6, a7⟩ | ⟨a1, a2⟩
      · left
        rw [a7, lN_sub (by omega)]
        refine ⟨Y', M', D', (60 * h + m + 1440 - zz) / 60, (60 * h + m + 1440 - zz) % 60, by omega, a2, a3, a4, a5, by omega, by omega, ?_, ?_⟩
        · rw [nu_l60, pk_rem (by omega) (by omega) (by omega), pk_div (by omega) (by omega) (by omega)]
        · congr 1; omega
      · right
        refine ⟨a2, ?_⟩
        rw [a1, Int64.lt_iff_toInt_lt, Int64.toInt_sub, pk_lT (by omega), pk_lT (by omega), pk_lT (by omega), Int.bmod_eq_of_le (by omega) (by omega)]
        omega
  · left
    have hW : (0 - nI (60 * zz)).toInt64 = - lN (60 * zz) := by
      rw [← nI_l (by omega : 60 * zz < 2 ^ 31)]
      apply Int64.toInt_inj.mp
      rw [Int32.toInt_toInt64, Int32.zero_sub, Int32.toInt_neg, Int64.toInt_neg, Int32.toInt_toInt64, nI_toInt (by omega), Int.bmod_eq_of_le (by omega) (by omega), Int.bmod_eq_of_le (by omega) (by omega)]
    rw [hW, Int64.sub_neg, lN_add]
    unfold movBy
    rw [hA, Int32.neg_neg, nI_add, if_pos (show 0 ≤ nI (60 * h + m + zz) from nI_pos' (by omega))]
    by_cases c : 60 * h + m + zz < 1440
    · rw [if_pos (show nI (60 * h + m + zz) < 1440 from nI_lt (b := 1440) (by omega) (by omega))]
      refine ⟨Y, M, D, (60 * h + m + zz) / 60, (60 * h + m + zz) % 60, by omega, h1, h2, hD, hD2, by omega, by omega, ?_, ?_⟩
      · rw [nu_l60, pk_rem (by omega) (by omega) (by omega), pk_div (by omega) (by omega) (by omega)]
      · congr 1; omega
    · rw [if_neg (show ¬ nI (60 * h + m + zz) < 1440 from nI_nlt (b := 1440) (by omega) (by omega))]
      have es : nI (60 * h + m + zz) + (-1440) = nI (60 * h + m + zz - 1440) := by
        rw [← Int32.sub_eq_add_neg, nu_l1440, pk_sub (by omega)]
      rw [es]
      dsimp only
      obtain ⟨Y', M', D', a1, a2, a3, a4, a5, a6, a7⟩ := rd_on hY h1 h2 hD hD2
      rw [a7]
      refine ⟨Y', M', D', (60 * h + m + zz - 1440) / 60, (60 * h + m + zz - 1440) % 60, by omega, a2, a3, a4, a5, by omega, by omega, ?_, ?_⟩
      · rw [nu_l60, pk_rem (by omega) (by omega) (by omega), pk_div (by omega) (by omega) (by omega)]
      · refine congrArg lN ?_; omega

theorem rd_T {Y M D : Nat} (h1 : 1 ≤ M) (h2 : M ≤ 12) (hD : 1 ≤ D) (hD2 : D ≤ nDays Y M) (Z : Nat) : nDay Y M D < nTo Z ↔ Y < Z := by
  obtain ⟨a, b⟩ := nu_day_b Y M D h1 h2 hD hD2
  constructor
  · intro h
    apply Decidable.byContradiction
    intro q
    have := nu_to_mono (show Z ≤ Y by omega)
    omega
  · intro h
    have := nu_to_mono (show Y + 1 ≤ Z by omega)
    omega
/-- the reference's bound of a year -/
theorem rd_B {Z : Nat} (hZ : Z ≤ 10000) (z : Int32) (ez : z = nI Z) : 86400 * (mDayOf z 1 1).toInt64 = lN (86400 * nTo Z) := by
  have e : mDayOf z 1 1 = nI (nDay Z 1 1) := by rw [ez]; exact nu_mDayOf (M := 1) (D := 1) (by omega) (by omega) (by omega) (by omega) (by omega)
  have hb := nu_day_lt (Y := Z) (M := 1) (D := 1) (by omega) (by omega) (by omega)
  rw [e, nI_l (by omega), nu_L86400, lN_mul]
  refine congrArg lN ?_
  unfold nDay; rw [nu_bef_1]; omega
/-- the range: both say the same -/
theorem rd_range {Y M D r lo hi : Nat} {kind : Int32} {al : Int64} (h1 : 1 ≤ M) (h2 : M ≤ 12) (hD : 1 ≤ D) (hD2 : D ≤ nDays Y M) (hY : Y ≤ 10000) (hr : r < 86400) (hal : al = lN (86400 * nDay Y M D + r)) (hlo : lo ≤ 10000) (hhi : hi ≤ 10000)
    (hk : yFits kind (nI Y) = true ↔ lo ≤ Y ∧ Y < hi) : (bI (yFits kind (nI Y)) = 0 → lg_cmp al (lN (86400 * nTo lo)) < 0 ∨ (¬ lg_cmp al (lN (86400 * nTo lo)) < 0 ∧ ¬ lg_cmp al (lN (86400 * nTo hi)) < 0)) ∧
      (¬ bI (yFits kind (nI Y)) = 0 → ¬ lg_cmp al (lN (86400 * nTo lo)) < 0 ∧ lg_cmp al (lN (86400 * nTo hi)) < 0 ∧ lo ≤ Y ∧ Y < hi) := by
  have hd := nu_days_le Y M
  have hb := nu_day_lt (Y := Y) (M := M) (D := D) (by omega) h2 (by omega)
  have b1 := nu_to_le lo
  have b2 := nu_to_le hi
  have t1 := rd_T h1 h2 hD hD2 lo
  have t2 := rd_T h1 h2 hD hD2 hi
  subst hal
  rw [lg_cmp_lt, lg_cmp_lt, pk_lLT (by omega) (by omega), pk_lLT (by omega) (by omega), bI_eq0]
  cases hf : yFits kind (nI Y)
  · rw [hf] at hk
    have : ¬ (lo ≤ Y ∧ Y < hi) := fun q => absurd (hk.mpr q) (by decide)
    refine ⟨fun _ => ?_, fun q => absurd rfl q⟩
    by_cases c : Y < lo
    · left; have := t1.mpr c; omega
    · right
      have c2 : ¬ Y < hi := fun q => this ⟨by omega, q⟩
      have n1 : ¬ nDay Y M D < nTo lo := fun q => c (t1.mp q)
      have n2 : ¬ nDay Y M D < nTo hi := fun q => c2 (t2.mp q)
      omega
  · rw [hf] at hk
    obtain ⟨k1, k2⟩ := hk.mp rfl
    refine ⟨fun q => absurd q (by decide), fun _ => ?_⟩
    have n1 : ¬ nDay Y M D < nTo lo := fun q => by have := t1.mp q; omega
    have n2 := t2.mpr k2
    omega
theorem rd_fits0 {Y : Nat} (hY : Y ≤ 10000) : yFits 0 (nI Y) = true ↔ 1950 ≤ Y ∧ Y < 2050 := by
  unfold yFits
  rw [if_pos rfl]
  by_cases c : Y < 1950
  · rw [if_pos (show nI Y < 1950 from nI_lt (b := 1950) c (by omega))]; simp; omega
  · rw [if_neg (show ¬ nI Y < 1950 from nI_nlt (b := 1950) (by omega) (by omega))]
    by_cases c2 : 2049 < Y
    · rw [if_pos (show 2049 < nI Y from nI_lt (a := 2049) c2 (by omega))]; simp; omega
    · rw [if_neg (show ¬ 2049 < nI Y from nI_nlt (a := 2049) (by omega) (by omega))]; simp; omega
theorem rd_fits1 {Y : Nat} (hY : Y ≤ 10000) : yFits 1 (nI Y) = true ↔ 0 ≤ Y ∧ Y < 10000 := by
  unfold yFits
  rw [if_neg (by decide), if_neg (show ¬ nI Y < 0 from nI_pos (by omega))]
  by_cases c2 : 9999 < Y
  · rw [if_pos (show 9999 < nI Y from nI_lt (a := 9999) c2 (by omega))]; simp; omega
  · rw [if_neg (show ¬ 9999 < nI Y from nI_nlt (a := 9999) (by omega) (by omega))]; simp; omega
