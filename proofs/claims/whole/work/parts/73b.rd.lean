-- READING: the class's pieces against the reference's
def bt_ok (f : Nat → Int32) (n : Nat) (X : Nat → Int32) : Prop := n ≤ 242 ∧ ∀ i, i < n → X i = f i &&& 255
theorem nI_m1 {v : Nat} (h : v < 2 ^ 31) : ¬ nI v = -1 := fun q => by
  have := congrArg Int32.toInt q
  rw [nI_toInt h] at this
  have e : (-1 : Int32).toInt = -1 := by decide
  omega
theorem rd_in {f X : Nat → Int32} {n t : Nat} (hb : bt_ok f n X) (ht : t < n) : rByte f n (nI t) = X t ∧ ∃ j : Nat, j < 256 ∧ X t = nI j := by
  have h1 := hb.1
  unfold rByte
  rw [if_neg (nI_pos (by omega)), if_neg (nI_ge ht (by omega)), nI_clamp (by omega), hb.2 t ht]
  exact ⟨rfl, pk_andE _ 8 (by decide)⟩
theorem rd_out {f : Nat → Int32} {n t : Nat} (hn : n ≤ t) (ht : t < 2 ^ 20) : rByte f n (nI t) = -1 := by
  unfold rByte
  rw [if_neg (nI_pos (by omega)), if_pos (nI_le hn (by omega))]
theorem rd_dig {f X : Nat → Int32} {n t : Nat} (hb : bt_ok f n X) (ht : t < 2 ^ 20) :
    (∃ q : Nat, q < 10 ∧ mDig X n t = true ∧ X t = nI (48 + q) ∧ rDigit f n (nI t) = nI q ∧ t < n) ∨ (mDig X n t = false ∧ rDigit f n (nI t) = -1) := by
  have h1 := hb.1
  by_cases hn : t < n
  · obtain ⟨e, j, hj, ej⟩ := rd_in hb hn
    unfold mDig rDigit
    rw [e, if_neg (nI_ge hn (by omega)), ej]
    by_cases h48 : j < 48
    · right
      rw [if_pos (show nI j < 48 from nI_lt (b := 48) h48 (by omega)), if_pos (show nI j < 48 from nI_lt (b := 48) h48 (by omega))]; exact ⟨rfl, rfl⟩
    · rw [if_neg (show ¬ nI j < 48 from nI_nlt (b := 48) (by omega) (by omega)), if_neg (show ¬ nI j < 48 from nI_nlt (b := 48) (by omega) (by omega))]
      by_cases h57 : 57 < j
      · right
        rw [if_pos (show 57 < nI j from nI_lt (a := 57) h57 (by omega)), if_pos (show 57 < nI j from nI_lt (a := 57) h57 (by omega))]; exact ⟨rfl, rfl⟩
      · left
        rw [if_neg (show ¬ 57 < nI j from nI_nlt (a := 57) (by omega) (by omega)), if_neg (show ¬ 57 < nI j from nI_nlt (a := 57) (by omega) (by omega))]
        refine ⟨j - 48, by omega, rfl, by congr 1; omega, ?_, hn⟩
        rw [nu_l48, pk_sub (by omega)]
  · right
    unfold mDig rDigit
    rw [if_pos (nI_le (by omega) (by omega)), rd_out (by omega) ht]
    exact ⟨rfl, rfl⟩
theorem rd_num_t {X : Nat → Int32} {n : Nat} {N : Nat} {v : Int32} {ma : Nat} : mNumL X n (N + 1) v ma true = (0, ma, true) := rfl
theorem rd_num_f {X : Nat → Int32} {n : Nat} {N : Nat} {v : Int32} {ma : Nat} (h : mDig X n ma = false) : mNumL X n (N + 1) v ma false = (0, ma, true) := by
  show (if bI false = 0 then (if bI (mDig X n ma) = 0 then _ else _) else _) = _
  rw [if_pos (show bI false = 0 from rfl), h, if_pos (show bI false = 0 from rfl)]
theorem rd_num_s {X : Nat → Int32} {n : Nat} {N : Nat} {v q : Nat} {ma : Nat} (h : mDig X n ma = true) (hX : X ma = nI (48 + q)) (hv : v < 2 ^ 20) (hq : q < 10) : mNumL X n (N + 1) (nI v) ma false = mNumL X n N (nI (10 * v + q)) (ma + 1) false := by
  show (if bI false = 0 then (if bI (mDig X n ma) = 0 then _ else _) else _) = _
  rw [if_pos (show bI false = 0 from rfl), h, if_neg (show ¬ bI true = 0 by decide), hX, nu_l10, pk_mul, nI_add, nu_l48, pk_sub (by omega)]
  congr 2; omega
theorem rd_two_t {X : Nat → Int32} {n ma : Nat} {lo hi : Int32} : mTwo X n ma true lo hi = (lo, ma, true) := rfl
theorem rd_pair {f X : Nat → Int32} {n t l h : Nat} (hb : bt_ok f n X) (ht : t < 2 ^ 19) (hl : l < 100) (hh : h < 100) :
    (∃ v : Nat, l ≤ v ∧ v ≤ h ∧ v < 100 ∧ rdPair f n (nI t) (nI l) (nI h) = (nI v, nI (t + 2)) ∧ mTwo X n t false (nI l) (nI h) = (nI v, t + 2, false) ∧ t + 2 ≤ n ∧ mDig X n t = true ∧ ∀ N c : Nat, c < 2 ^ 16 → mNumL X n (N + 2) (nI c) t false = mNumL X n N (nI (100 * c + v)) (t + 2) false) ∨
    ((rdPair f n (nI t) (nI l) (nI h)).1 = -1 ∧ (mTwo X n t false (nI l) (nI h)).2.2 = true ∧ ((l = 0 ∧ h = 99) → ∀ N c : Nat, c < 2 ^ 16 → (mNumL X n (N + 2) (nI c) t false).2.2 = true)) := by
  have h1 := hb.1
  unfold rdPair mTwo
  rcases rd_dig hb (t := t) (by omega) with ⟨q, hq, d1, d2, d3, d4⟩ | ⟨d1, d2⟩
  · rcases rd_dig hb (t := t + 1) (by omega) with ⟨p, hp, e1, e2, e3, e4⟩ | ⟨e1, e2⟩
    · have en' : ∀ N c : Nat, c < 2 ^ 16 → mNumL X n (N + 2) (nI c) t false = mNumL X n N (nI (100 * c + (10 * q + p))) (t + 2) false := by
        intro N c hc
        rw [rd_num_s d1 d2 (by omega) hq, rd_num_s e1 e2 (by omega) hp, show 10 * (10 * c + q) + p = 100 * c + (10 * q + p) by omega]
      have en : mNumL X n 2 0 t false = (nI (10 * q + p), t + 2, false) := by
        rw [nu_l0, en' 0 0 (by omega), show 100 * 0 + (10 * q + p) = 10 * q + p by omega]; rfl
      have ev : ((rDigit f n (nI t)) * 10) + (rDigit f n (nI t + 1)) = nI (10 * q + p) := by
        rw [d3, nI_1, e3, nu_l10, pk_mul, nI_add]; congr 1; omega
      have n1 : ¬ rDigit f n (nI t) = -1 := by rw [d3]; exact nI_m1 (by omega)
      have n2 : ¬ rDigit f n (nI t + 1) = -1 := by rw [nI_1, e3]; exact nI_m1 (by omega)
      rw [if_neg n1, if_neg n2, ev, en]
      dsimp only
      rw [if_pos (show bI false = 0 from rfl)]
      by_cases c1 : 10 * q + p < l
      · right
        rw [if_pos (nI_lt c1 (by omega)), if_pos (nI_lt c1 (by omega))]
        exact ⟨rfl, rfl, fun z => by omega⟩
      · rw [if_neg (nI_nlt (by omega) (by omega)), if_neg (nI_nlt (by omega) (by omega))]
        by_cases c2 : 10 * q + p ≤ h
        · left
          rw [if_pos (nI_le c2 (by omega)), if_pos (nI_le c2 (by omega))]
          refine ⟨10 * q + p, by omega, c2, by omega, ?_, rfl, by omega, d1, en'⟩
          rw [nu_l2, nI_add]
        · right
          rw [if_neg (nI_ge (by omega) (by omega)), if_neg (nI_ge (by omega) (by omega))]
          exact ⟨rfl, rfl, fun z => by omega⟩
    · right
      have n1 : ¬ rDigit f n (nI t) = -1 := by rw [d3]; exact nI_m1 (by omega)
      have en : mNumL X n 2 0 t false = (0, t + 1, true) := by
        rw [nu_l0, rd_num_s d1 d2 (by omega) hq, rd_num_f e1]; rfl
      rw [if_neg n1, nI_1, if_pos e2, en]
      exact ⟨rfl, rfl, fun _ N c hc => by rw [rd_num_s d1 d2 (by omega) hq, rd_num_f e1]⟩
  · right
    rw [if_pos d2, rd_num_f d1]
    exact ⟨rfl, rfl, fun _ N c hc => by rw [rd_num_f d1]⟩
/-- a pair in its place: the first of the two ways wants the digits, the other fails in both -/
theorem rd_short {f X : Nat → Int32} {n t : Nat} (hb : bt_ok f n X) (ht : t < 2 ^ 19) :
    (∃ Y : Nat, 1950 ≤ Y ∧ Y ≤ 2049 ∧ rdShort f n (nI t) = (nI Y, nI (t + 2)) ∧ mYear X n t false 0 = (nI Y, t + 2, false) ∧ t + 2 ≤ n) ∨
    ((rdShort f n (nI t)).1 = -1 ∧ (mYear X n t false 0).2.2 = true) := by
  unfold rdShort mYear
  rw [if_pos rfl]
  dsimp only
  rcases rd_pair (l := 0) (h := 99) hb ht (by omega) (by omega) with ⟨v, v1, v2, v3, e1, e2, e3, e4, e5⟩ | ⟨e1, e2, e3⟩
  · left
    rw [show rdPair f n (nI t) 0 99 = (nI v, nI (t + 2)) from e1, show mNumL X n 2 0 t false = (nI v, t + 2, false) from (e5 0 0 (by omega)).trans (by rw [show 100 * 0 + v = v by omega]; rfl), if_neg (nI_m1 (by omega))]
    dsimp only
    by_cases c : 50 ≤ v
    · rw [if_pos (show 50 ≤ nI v from nI_le (a := 50) c (by omega)), if_pos (show 50 ≤ nI v from nI_le (a := 50) c (by omega))]
      exact ⟨1900 + v, by omega, by omega, by rw [← nI_add _ v]; rfl, by rw [← nI_add _ v]; rfl, e3⟩
    · rw [if_neg (show ¬ 50 ≤ nI v from nI_ge (b := 50) (by omega) (by omega)), if_neg (show ¬ 50 ≤ nI v from nI_ge (b := 50) (by omega) (by omega))]
      exact ⟨2000 + v, by omega, by omega, by rw [← nI_add _ v]; rfl, by rw [← nI_add _ v]; rfl, e3⟩
  · right
    rw [if_pos (show (rdPair f n (nI t) 0 99).1 = -1 from e1)]
    refine ⟨rfl, ?_⟩
    split <;> exact e3 ⟨rfl, rfl⟩ 0 0 (by omega)
theorem rd_long {f X : Nat → Int32} {n t : Nat} (hb : bt_ok f n X) (ht : t < 2 ^ 18) :
    (∃ Y : Nat, Y < 10000 ∧ rdLong f n (nI t) = (nI Y, nI (t + 4)) ∧ mYear X n t false 1 = (nI Y, t + 4, false) ∧ t + 4 ≤ n) ∨
    ((rdLong f n (nI t)).1 = -1 ∧ (mYear X n t false 1).2.2 = true) := by
  unfold rdLong mYear
  rw [if_neg (show ¬ (1 : Int32) = 0 by decide)]
  dsimp only
  rcases rd_pair (l := 0) (h := 99) (t := t) hb (by omega) (by omega) (by omega) with ⟨v, v1, v2, v3, e1, e2, e3, e4, e5⟩ | ⟨e1, e2, e3⟩
  · rw [show rdPair f n (nI t) 0 99 = (nI v, nI (t + 2)) from e1, if_neg (nI_m1 (by omega)), nu_l0, e5 2 0 (by omega)]
    dsimp only
    rcases rd_pair (l := 0) (h := 99) (t := t + 2) hb (by omega) (by omega) (by omega) with ⟨w, w1, w2, w3, g1, g2, g3, g4, g5⟩ | ⟨g1, g2, g3⟩
    · left
      rw [show rdPair f n (nI (t + 2)) (nI 0) 99 = (nI w, nI (t + 2 + 2)) from g1, if_neg (nI_m1 (by omega)), g5 0 _ (by omega)]
      refine ⟨100 * v + w, by omega, ?_, ?_, by omega⟩
      · dsimp only
        rw [nu_l100, pk_mul, nI_add]; congr 2; omega
      · show (nI _, _, false) = _
        congr 2; omega
    · right
      rw [if_pos (show (rdPair f n (nI (t + 2)) (nI 0) 99).1 = -1 from g1)]
      exact ⟨rfl, g3 ⟨rfl, rfl⟩ 0 _ (by omega)⟩
  · right
    rw [if_pos (show (rdPair f n (nI t) 0 99).1 = -1 from e1)]
    exact ⟨rfl, e3 ⟨rfl, rfl⟩ 2 0 (by omega)⟩
/-- what a date's reading has, in both -/
def rd_D (f X : Nat → Int32) (n : Nat) (kind : Int32) (mo d : Int32) (lo hi p : Nat) : Prop :=
  ∃ Y M D a : Nat, lo ≤ Y ∧ Y ≤ hi ∧ 1 ≤ M ∧ M ≤ 12 ∧ 1 ≤ D ∧ D ≤ nDays Y M ∧ p ≤ n ∧ rdDate f n kind 0 mo d = (true, nI p, nI Y, nI M, nI D) ∧
    mYear X n 0 false kind = (nI Y, a, false) ∧ mTwo X n a false 1 12 = (nI M, a + 2, false) ∧ mTwo X n (a + 2) false 1 (mDays (nI Y) (nI M)) = (nI D, p, false)
def rd_E (f X : Nat → Int32) (n : Nat) (kind : Int32) (mo d : Int32) : Prop :=
  (rdDate f n kind 0 mo d).1 = false ∧ (let v_17 := mYear X n 0 false kind
    let v_25 := mTwo X n v_17.2.1 v_17.2.2 1 12
    let v_36 := mTwo X n v_25.2.1 v_25.2.2 1 (mDays v_17.1 v_25.1)
    v_36.2.2 = true)
theorem rd_date_x {f X : Nat → Int32} {n : Nat} {kind mo d : Int32} {Y a : Nat} (hb : bt_ok f n X) (hY : Y < 20000) (ha : a < 100)
    (y : mYear X n 0 false kind = (nI Y, a, false)) (hr : ∀ v : Int32 × Int32, rdDate f n kind 0 mo d = (if v = v then (let v_37 := rdPair f n (nI a) 1 12
      if v_37.1 = (-1) then
        (false, v_37.2, nI Y, v_37.1, d)
      else
        let v_68 := rdPair f n v_37.2 1 (daysM (nI Y) v_37.1)
        if v_68.1 = (-1) then
          (false, v_68.2, nI Y, v_37.1, v_68.1)
        else
          (true, v_68.2, nI Y, v_37.1, v_68.1)) else (true, 0, 0, 0, 0))) {lo hi : Nat} (h1 : lo ≤ Y) (h2 : Y ≤ hi) : rd_D f X n kind mo d lo hi (a + 4) ∨ rd_E f X n kind mo d := by
  have hr := hr (0, 0)
  rw [if_pos rfl] at hr
  unfold rd_D rd_E
  rw [hr, y]
  dsimp only
  rcases rd_pair (l := 1) (h := 12) (t := a) hb (by omega) (by omega) (by omega) with ⟨M, v1, v2, v3, e1, e2, e3, e4, e5⟩ | ⟨e1, e2, e3⟩
  · have e1 : rdPair f n (nI a) 1 12 = (nI M, nI (a + 2)) := e1
    have e2 : mTwo X n a false 1 12 = (nI M, a + 2, false) := e2
    have hd := nu_days_le Y M
    rw [e1, e2, if_neg (nI_m1 (by omega))]
    dsimp only
    rw [nu_daysM (by omega) v1 v2, nu_mDays (by omega) (by omega)]
    rcases rd_pair (l := 1) (h := nDays Y M) (t := a + 2) hb (by omega) (by omega) (by omega) with ⟨D, w1, w2, w3, g1, g2, g3, g4, g5⟩ | ⟨g1, g2, g3⟩
    · left
      have g1 : rdPair f n (nI (a + 2)) 1 (nI (nDays Y M)) = (nI D, nI (a + 4)) := g1
      have g2 : mTwo X n (a + 2) false 1 (nI (nDays Y M)) = (nI D, a + 4, false) := g2
      refine ⟨Y, M, D, a, h1, h2, v1, v2, w1, w2, g3, ?_, rfl, e2, ?_⟩
      · rw [g1, if_neg (nI_m1 (by omega))]
      · rw [nu_mDays (by omega) (by omega)]; exact g2
    · right
      rw [if_pos (show (rdPair f n (nI (a + 2)) 1 (nI (nDays Y M))).1 = -1 from g1)]
      exact ⟨rfl, g2⟩
  · right
    have e2 : (mTwo X n a false 1 12).2.2 = true := e2
    rw [if_pos (show (rdPair f n (nI a) 1 12).1 = -1 from e1), e2, rd_two_t]
    exact ⟨rfl, rfl⟩
theorem rd_date0 {f X : Nat → Int32} {n : Nat} {mo d : Int32} (hb : bt_ok f n X) : rd_D f X n 0 mo d 1950 2049 6 ∨ rd_E f X n 0 mo d := by
  rcases rd_short (t := 0) hb (by omega) with ⟨Y, h1, h2, e1, e2, e3⟩ | ⟨e1, e2⟩
  · refine rd_date_x (a := 2) hb (by omega) (by omega) e2 (fun v => ?_) h1 h2
    unfold rdDate
    rw [if_pos rfl, if_pos rfl, show rdShort f n 0 = (nI Y, nI (0 + 2)) from e1]
    dsimp only
    rw [if_neg (nI_m1 (by omega))]
  · right
    unfold rd_E rdDate
    rw [if_pos rfl]
    dsimp only
    rw [if_pos (show (rdShort f n 0).1 = -1 from e1), e2, rd_two_t, rd_two_t]
    exact ⟨rfl, rfl⟩
theorem rd_date1 {f X : Nat → Int32} {n : Nat} {mo d : Int32} (hb : bt_ok f n X) : rd_D f X n 1 mo d 0 9999 8 ∨ rd_E f X n 1 mo d := by
  rcases rd_long (t := 0) hb (by omega) with ⟨Y, h1, e1, e2, e3⟩ | ⟨e1, e2⟩
  · refine rd_date_x (a := 4) hb (by omega) (by omega) e2 (fun v => ?_) (by omega) (by omega)
    unfold rdDate
    rw [if_neg (by decide), if_pos rfl, show rdLong f n 0 = (nI Y, nI (0 + 4)) from e1]
    dsimp only
    rw [if_neg (nI_m1 (by omega))]
  · right
    unfold rd_E rdDate
    rw [if_neg (by decide)]
    dsimp only
    rw [if_pos (show (rdLong f n 0).1 = -1 from e1), e2, rd_two_t, rd_two_t]
    exact ⟨rfl, rfl⟩
