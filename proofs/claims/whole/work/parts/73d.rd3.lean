-- READING: the long clock
def rd_V (v m s U b : Nat) : Prop := (v = 1 ∧ m = 0 ∧ s = 0 ∧ U = 3600 ∧ b = 0) ∨ (v = 2 ∧ s = 0 ∧ U = 60 ∧ b = 60 * m) ∨ (v = 3 ∧ U = 1 ∧ b = 60 * m + s)
theorem rd_spread {v m s U b j : Nat} {G Q : Nat → Int32} (hv : rd_V v m s U b) (hm : m < 60) (hs : s < 60) (hG : pd_ok G j) (hQ : ∀ i, i < j → Q i = G i) :
    ∃ (m' s' K : Nat) (Gf : Nat → Int32), m' < 60 ∧ s' < 60 ∧ spread (nI v) (nI m) (nI s) G j = (nI m', nI s', Gf, K) ∧ nI b + (smL (nI U) j Q 0).2 = nI (60 * m' + s') ∧
      stL (smL (nI U) j Q 0).1 j = K ∧ (∀ i, i < K → (smL (nI U) j Q 0).1 i = Gf i) ∧ pd_ok Gf K ∧ K ≤ j - (3 - v) := by
  unfold spread
  rcases hv with ⟨rfl, rfl, rfl, rfl, rfl⟩ | ⟨rfl, rfl, rfl, rfl⟩ | ⟨rfl, rfl, rfl⟩
  · obtain ⟨⟨c, d, hc, hd, e1, e2, e3⟩, e4⟩ := pt_3600 j G Q 0 0 hG hQ (by omega) (by omega)
    have e1 : (sxL j G 0).2 = nI c := e1
    have e2 : (sxL j (sxL j G 0).1 0).2 = nI d := e2
    have e3 : (smL (nI 3600) j Q 0).2 = nI (60 * c + d) := e3
    have e4 : ∀ i, i < j → (smL (nI 3600) j Q 0).1 i = (sxL j (sxL j G 0).1 0).1 i := e4
    have hl : stL (sxL j (sxL j G 0).1 0).1 j ≤ j - 2 := pt_last2 hG
    rw [if_pos (show nI 1 = 1 from rfl), if_neg (show ¬ nI 1 = 3 by decide), e1, e2, e3]
    refine ⟨c, d, _, _, hc, hd, rfl, ?_, pt_st_c j e4, fun i hi => e4 i (by omega), ?_, hl⟩
    · rw [nI_add]; congr 1; omega
    · exact pd_less (pt_sx_b j _ 0 (pt_sx_b j G 0 hG (by omega)).2 (by omega)).2 (by omega)
  · obtain ⟨e3, e4⟩ := pt_60 j G Q 0 hG hQ (by omega)
    obtain ⟨⟨c, hc, e1⟩, e5⟩ := pt_sx_b j G 0 hG (by omega)
    have e1 : (sxL j G 0).2 = nI c := e1
    have e3 : (smL (nI 60) j Q 0).2 = (sxL j G 0).2 := e3
    have e4 : ∀ i, i < j → (smL (nI 60) j Q 0).1 i = (sxL j G 0).1 i := e4
    have hl : stL (sxL j G 0).1 j ≤ j - 1 := pt_last1 hG
    rw [if_neg (show ¬ nI 2 = 1 by decide), if_neg (show ¬ nI 2 = 3 by decide), e3, e1]
    exact ⟨m, c, _, _, hm, hc, rfl, by rw [nI_add], pt_st_c j e4, fun i hi => e4 i (by omega), pd_less e5 (by omega), hl⟩
  · have hQ' : pd_ok Q j := fun i hi => by rw [hQ i hi]; exact hG i hi
    obtain ⟨e3, e4⟩ := pt_1 j Q hQ'
    have e3 : (smL (nI 1) j Q 0).2 = nI 0 := e3
    have e4 : ∀ i, i < j → (smL (nI 1) j Q 0).1 i = Q i := e4
    have e4' : ∀ i, i < j → (smL (nI 1) j Q 0).1 i = G i := fun i hi => (e4 i hi).trans (hQ i hi)
    have hl := stL_le G j
    rw [if_neg (show ¬ nI 3 = 1 by decide), if_pos (show nI 3 = 3 from rfl), e3]
    exact ⟨m, s, _, _, hm, hs, rfl, by rw [nI_add]; rfl, pt_st_c j e4', fun i hi => e4' i (by omega), pd_less hG (by omega), by omega⟩
theorem rd_tp {f X : Nat → Int32} {n a v m s U b h : Nat} {g PD : Nat → Int32} (hb : bt_ok f n X) (ha : a < n) (ha2 : 2 ≤ a) (hv : rd_V v m s U b) (hm : m < 60) (hs : s < 60) :
    (∃ (m' s' p k : Nat) (G P : Nat → Int32), m' < 60 ∧ s' < 60 ∧ p ≤ n ∧ pd_ok G k ∧ (∀ i, i < k → P i = G i) ∧ k ≤ p - (a + 1) - (3 - v) ∧
      ((decide (¬ nI (ptL f n (n - (nI a + 1).toNatClampNeg) (nI a + 1).toNatClampNeg g 0).1 ≤ nI (nI a + 1).toNatClampNeg)), nI (ptL f n (n - (nI a + 1).toNatClampNeg) (nI a + 1).toNatClampNeg g 0).1, nI h, (spread (nI v) (nI m) (nI s) (ptL f n (n - (nI a + 1).toNatClampNeg) (nI a + 1).toNatClampNeg g 0).2.1 (ptL f n (n - (nI a + 1).toNatClampNeg) (nI a + 1).toNatClampNeg g 0).2.2).1, (spread (nI v) (nI m) (nI s) (ptL f n (n - (nI a + 1).toNatClampNeg) (nI a + 1).toNatClampNeg g 0).2.1 (ptL f n (n - (nI a + 1).toNatClampNeg) (nI a + 1).toNatClampNeg g 0).2.2).2.1, (spread (nI v) (nI m) (nI s) (ptL f n (n - (nI a + 1).toNatClampNeg) (nI a + 1).toNatClampNeg g 0).2.1 (ptL f n (n - (nI a + 1).toNatClampNeg) (nI a + 1).toNatClampNeg g 0).2.2).2.2.1, (spread (nI v) (nI m) (nI s) (ptL f n (n - (nI a + 1).toNatClampNeg) (nI a + 1).toNatClampNeg g 0).2.1 (ptL f n (n - (nI a + 1).toNatClampNeg) (nI a + 1).toNatClampNeg g 0).2.2).2.2.2) = (true, nI p, nI h, nI m', nI s', G, k) ∧
      (let v_95 := mRp X n a false PD 0 (nI U)
       (nI b + v_95.1, v_95.2.1, v_95.2.2.1, v_95.2.2.2.1, v_95.2.2.2.2)) = (nI (60 * m' + s'), p, false, P, k)) ∨
    (decide (¬ nI (ptL f n (n - (nI a + 1).toNatClampNeg) (nI a + 1).toNatClampNeg g 0).1 ≤ nI (nI a + 1).toNatClampNeg) = false ∧ (mRp X n a false PD 0 (nI U)).2.2.1 = true) := by
  have hn := hb.1
  rw [nI_1, nI_clamp (by omega)]
  obtain ⟨e, j, G, Q, i1, i2, i3, i4, i5, i6, i7, i8, i9⟩ := rd_part hb (n - (a + 1)) (a + 1) 0 g PD rfl (by omega) (by omega) (fun i hi => absurd hi (by omega)) (fun i hi => absurd hi (by omega))
  rw [i1]
  dsimp only
  cases hd : mDig X n (a + 1)
  · right
    have := i9 hd
    subst this
    refine ⟨decide_eq_false (fun q => q (nI_le (Nat.le_refl _) (by omega))), rd_rp_true hd⟩
  · left
    have he := i8 hd
    obtain ⟨m', s', K, Gf, s1, s2, s3, s4, s5, s6, s7, s8⟩ := rd_spread hv hm hs i3 i4
    rw [rd_rp hd i2, s3]
    refine ⟨m', s', e, K, Gf, (smL (nI U) j Q 0).1, s1, s2, i5, s7, s6, by omega, ?_, ?_⟩
    · rw [decide_eq_true (nI_ge he (by omega))]
    · dsimp only
      rw [s4, s5]
theorem rd_tail {f X : Nat → Int32} {n a v m s U b h : Nat} {g PD : Nat → Int32} (hb : bt_ok f n X) (ha : a ≤ n) (ha2 : 2 ≤ a) (hv : rd_V v m s U b) (hm : m < 60) (hs : s < 60) (C : Bool × Int32 × Int32 × Int32 × Int32 × (Nat → Int32) × Nat) (R : Int32 × Nat × Bool × (Nat → Int32) × Nat)
    (hC : C = if (rByte f n (nI a)) = 46 then
        ((decide (¬ nI (ptL f n (n - (nI a + 1).toNatClampNeg) (nI a + 1).toNatClampNeg g 0).1 ≤ nI (nI a + 1).toNatClampNeg)), nI (ptL f n (n - (nI a + 1).toNatClampNeg) (nI a + 1).toNatClampNeg g 0).1, nI h, (spread (nI v) (nI m) (nI s) (ptL f n (n - (nI a + 1).toNatClampNeg) (nI a + 1).toNatClampNeg g 0).2.1 (ptL f n (n - (nI a + 1).toNatClampNeg) (nI a + 1).toNatClampNeg g 0).2.2).1, (spread (nI v) (nI m) (nI s) (ptL f n (n - (nI a + 1).toNatClampNeg) (nI a + 1).toNatClampNeg g 0).2.1 (ptL f n (n - (nI a + 1).toNatClampNeg) (nI a + 1).toNatClampNeg g 0).2.2).2.1, (spread (nI v) (nI m) (nI s) (ptL f n (n - (nI a + 1).toNatClampNeg) (nI a + 1).toNatClampNeg g 0).2.1 (ptL f n (n - (nI a + 1).toNatClampNeg) (nI a + 1).toNatClampNeg g 0).2.2).2.2.1, (spread (nI v) (nI m) (nI s) (ptL f n (n - (nI a + 1).toNatClampNeg) (nI a + 1).toNatClampNeg g 0).2.1 (ptL f n (n - (nI a + 1).toNatClampNeg) (nI a + 1).toNatClampNeg g 0).2.2).2.2.2)
      else
        if (rByte f n (nI a)) = 44 then
          ((decide (¬ nI (ptL f n (n - (nI a + 1).toNatClampNeg) (nI a + 1).toNatClampNeg g 0).1 ≤ nI (nI a + 1).toNatClampNeg)), nI (ptL f n (n - (nI a + 1).toNatClampNeg) (nI a + 1).toNatClampNeg g 0).1, nI h, (spread (nI v) (nI m) (nI s) (ptL f n (n - (nI a + 1).toNatClampNeg) (nI a + 1).toNatClampNeg g 0).2.1 (ptL f n (n - (nI a + 1).toNatClampNeg) (nI a + 1).toNatClampNeg g 0).2.2).1, (spread (nI v) (nI m) (nI s) (ptL f n (n - (nI a + 1).toNatClampNeg) (nI a + 1).toNatClampNeg g 0).2.1 (ptL f n (n - (nI a + 1).toNatClampNeg) (nI a + 1).toNatClampNeg g 0).2.2).2.1, (spread (nI v) (nI m) (nI s) (ptL f n (n - (nI a + 1).toNatClampNeg) (nI a + 1).toNatClampNeg g 0).2.1 (ptL f n (n - (nI a + 1).toNatClampNeg) (nI a + 1).toNatClampNeg g 0).2.2).2.2.1, (spread (nI v) (nI m) (nI s) (ptL f n (n - (nI a + 1).toNatClampNeg) (nI a + 1).toNatClampNeg g 0).2.1 (ptL f n (n - (nI a + 1).toNatClampNeg) (nI a + 1).toNatClampNeg g 0).2.2).2.2.2)
        else
          (true, nI a, nI h, nI m, nI s, g, 0))
    (hR : R = if nI n ≤ nI a then (nI b, a, false, PD, 0) else
        if (X a) = 46 then
          let v_95 := mRp X n a false PD 0 (nI U)
          (nI b + v_95.1, v_95.2.1, v_95.2.2.1, v_95.2.2.2.1, v_95.2.2.2.2)
        else
          if (X a) = 44 then
            let v_95 := mRp X n a false PD 0 (nI U)
            (nI b + v_95.1, v_95.2.1, v_95.2.2.1, v_95.2.2.2.1, v_95.2.2.2.2)
          else
            (nI b, a, false, PD, 0)) :
    (∃ (m' s' p k : Nat) (G P : Nat → Int32), m' < 60 ∧ s' < 60 ∧ p ≤ n ∧ pd_ok G k ∧ (∀ i, i < k → P i = G i) ∧ k ≤ p - (a + 1) - (3 - v) ∧ C = (true, nI p, nI h, nI m', nI s', G, k) ∧ R = (nI (60 * m' + s'), p, false, P, k)) ∨
    (C.1 = false ∧ R.2.2.1 = true) := by
  have hn := hb.1
  have eb : b = 60 * m + s := by
    rcases hv with ⟨-, rfl, rfl, -, rfl⟩ | ⟨-, rfl, -, rfl⟩ | ⟨-, -, rfl⟩ <;> rfl
  have p0 : pd_ok g 0 := fun i hi => absurd hi (by omega)
  by_cases hlt : a < n
  · rw [if_neg (nI_ge hlt (by omega))] at hR
    obtain ⟨ex, j, hj, ej⟩ := rd_in hb hlt
    rw [ex] at hC
    by_cases h46 : X a = 46
    · rw [if_pos h46] at hC hR
      rw [hC, hR]
      rcases rd_tp (h := h) (g := g) (PD := PD) hb hlt ha2 hv hm hs with ⟨m', s', p, k, G, P, q1, q2, q3, q4, q5, q6, q7, q8⟩ | ⟨q1, q2⟩
      · left; exact ⟨m', s', p, k, G, P, q1, q2, q3, q4, q5, q6, q7, q8⟩
      · right; exact ⟨q1, q2⟩
    · rw [if_neg h46] at hC hR
      by_cases h44 : X a = 44
      · rw [if_pos h44] at hC hR
        rw [hC, hR]
        rcases rd_tp (h := h) (g := g) (PD := PD) hb hlt ha2 hv hm hs with ⟨m', s', p, k, G, P, q1, q2, q3, q4, q5, q6, q7, q8⟩ | ⟨q1, q2⟩
        · left; exact ⟨m', s', p, k, G, P, q1, q2, q3, q4, q5, q6, q7, q8⟩
        · right; exact ⟨q1, q2⟩
      · rw [if_neg h44] at hC hR
        left
        exact ⟨m, s, a, 0, g, PD, hm, hs, ha, p0, fun i hi => absurd hi (by omega), by omega, hC, by rw [hR, eb]⟩
  · rw [if_pos (nI_le (by omega) (by omega))] at hR
    rw [rd_out (by omega) (by omega), if_neg (by decide), if_neg (by decide)] at hC
    left
    exact ⟨m, s, a, 0, g, PD, hm, hs, ha, p0, fun i hi => absurd hi (by omega), by omega, hC, by rw [hR, eb]⟩
/-- a long clock, behind a date of eight bytes -/
theorem rd_clk1 {f X : Nat → Int32} {n : Nat} {hh : Int32} {g PD : Nat → Int32} (hb : bt_ok f n X) (h14 : n ≤ 240 ∨ ∀ i, i < 14 → mDig X n i = true) (h8 : 8 ≤ n) :
    (∃ (h m s p k : Nat) (G P : Nat → Int32), h < 24 ∧ m < 60 ∧ s < 60 ∧ p ≤ n ∧ pd_ok G k ∧ (∀ i, i < k → P i = G i) ∧ (p < n → k ≤ 226) ∧ k ≤ 240 ∧ rdClock f n 1 (nI 8) hh 0 0 g 0 = (true, nI p, nI h, nI m, nI s, G, k) ∧
      mTwo X n 8 false 0 23 = (nI h, 10, false) ∧ mLong X n 10 false PD 0 = (nI (60 * m + s), p, false, P, k)) ∨
    ((rdClock f n 1 (nI 8) hh 0 0 g 0).1 = false ∧ (mLong X n (mTwo X n 8 false 0 23).2.1 (mTwo X n 8 false 0 23).2.2 PD 0).2.2.1 = true) := by
  have hn := hb.1
  rcases rd_pair (l := 0) (h := 23) (t := 8) hb (by omega) (by omega) (by omega) with ⟨h, v1, v2, v3, e1, e2, e3, e4, e5⟩ | ⟨e1, e2, e3⟩
  · have e1 : rdPair f n (nI 8) 0 23 = (nI h, nI 10) := e1
    have e2 : mTwo X n 8 false 0 23 = (nI h, 10, false) := e2
    rw [e2]
    dsimp only
    rcases rd_dig hb (t := 10) (by omega) with ⟨q, hq, d1, d2, d3, d4⟩ | ⟨d1, d2⟩
    · rcases rd_pair (l := 0) (h := 59) (t := 10) hb (by omega) (by omega) (by omega) with ⟨m, w1, w2, w3, g1, g2, g3, g4, g5⟩ | ⟨g1, g2, g3⟩
      · have g1 : rdPair f n (nI 10) 0 59 = (nI m, nI 12) := g1
        have g2 : mTwo X n 10 false 0 59 = (nI m, 12, false) := g2
        rcases rd_dig hb (t := 12) (by omega) with ⟨q', hq', d1', d2', d3', d4'⟩ | ⟨d1', d2'⟩
        · rcases rd_pair (l := 0) (h := 59) (t := 12) hb (by omega) (by omega) (by omega) with ⟨s, x1, x2, x3, k1, k2, k3, k4, k5⟩ | ⟨k1, k2, k3⟩
          · have k1 : rdPair f n (nI 12) 0 59 = (nI s, nI 14) := k1
            have k2 : mTwo X n 12 false 0 59 = (nI s, 14, false) := k2
            rcases rd_tail (a := 14) (v := 3) (m := m) (s := s) (U := 1) (b := 60 * m + s) (h := h) (g := g) (PD := PD) hb k3 (by omega) (Or.inr (Or.inr ⟨rfl, rfl, rfl⟩)) (by omega) (by omega) (rdClock f n 1 (nI 8) hh 0 0 g 0) (mLong X n 10 false PD 0)
              (by
                unfold rdClock rdUnits
                rw [e1]; dsimp only
                rw [if_neg (nI_m1 (by omega)), d3, if_neg (nI_m1 (by omega)), g1]; dsimp only
                rw [if_neg (nI_m1 (by omega)), d3', if_neg (nI_m1 (by omega)), k1]; dsimp only
                rw [if_neg (nI_m1 (by omega))]; dsimp only
                rw [if_neg (show ¬ (3 : Int32) = -1 by decide), if_neg (show ¬ (1 : Int32) = 0 by decide)]; rfl)
              (by
                unfold mLong
                rw [d1, if_neg (show ¬ bI true = 0 by decide), g2]; dsimp only
                rw [d1', if_neg (show ¬ bI true = 0 by decide), k2]; dsimp only
                rw [if_pos (show bI false = 0 from rfl), nu_l60, pk_mul, nI_add]; rfl)
              with ⟨m', s', p, k, G, P, q1, q2, q3, q4, q5, q6, q7, q8⟩ | ⟨q1, q2⟩
            · left; exact ⟨h, m', s', p, k, G, P, by omega, q1, q2, q3, q4, q5, fun _ => by omega, by omega, q7, rfl, q8⟩
            · right; exact ⟨q1, q2⟩
          · right
            constructor
            · unfold rdClock rdUnits
              rw [e1]; dsimp only
              rw [if_neg (nI_m1 (by omega)), d3, if_neg (nI_m1 (by omega)), g1]; dsimp only
              rw [if_neg (nI_m1 (by omega)), d3', if_neg (nI_m1 (by omega)), if_pos (show (rdPair f n (nI 12) 0 59).1 = -1 from k1)]; dsimp only
              rw [if_pos rfl]
            · have k2 : (mTwo X n 12 false 0 59).2.2 = true := k2
              unfold mLong
              rw [d1, if_neg (show ¬ bI true = 0 by decide), g2]; dsimp only
              rw [d1', if_neg (show ¬ bI true = 0 by decide), k2, if_neg (show ¬ bI true = 0 by decide)]
        · have h12 : n ≤ 240 := by
            rcases h14 with h | h
            · exact h
            · rw [h 12 (by omega)] at d1'; exact absurd d1' (by decide)
          rcases rd_tail (a := 12) (v := 2) (m := m) (s := 0) (U := 60) (b := 60 * m) (h := h) (g := g) (PD := PD) hb g3 (by omega) (Or.inr (Or.inl ⟨rfl, rfl, rfl, rfl⟩)) (by omega) (by omega) (rdClock f n 1 (nI 8) hh 0 0 g 0) (mLong X n 10 false PD 0)
              (by
                unfold rdClock rdUnits
                rw [e1]; dsimp only
                rw [if_neg (nI_m1 (by omega)), d3, if_neg (nI_m1 (by omega)), g1]; dsimp only
                rw [if_neg (nI_m1 (by omega)), if_pos d2']; dsimp only
                rw [if_neg (show ¬ (2 : Int32) = -1 by decide), if_neg (show ¬ (1 : Int32) = 0 by decide)]; rfl)
              (by
                unfold mLong
                rw [d1, if_neg (show ¬ bI true = 0 by decide), g2]; dsimp only
                rw [d1', if_pos (show bI false = 0 from rfl), if_pos (show bI false = 0 from rfl), nu_l60, pk_mul])
              with ⟨m', s', p, k, G, P, q1, q2, q3, q4, q5, q6, q7, q8⟩ | ⟨q1, q2⟩
          · left; exact ⟨h, m', s', p, k, G, P, by omega, q1, q2, q3, q4, q5, fun _ => by omega, by omega, q7, rfl, q8⟩
          · right; exact ⟨q1, q2⟩
      · right
        constructor
        · unfold rdClock rdUnits
          rw [e1]; dsimp only
          rw [if_neg (nI_m1 (by omega)), d3, if_neg (nI_m1 (by omega)), if_pos (show (rdPair f n (nI 10) 0 59).1 = -1 from g1)]; dsimp only
          rw [if_pos rfl]
        · have g2 : (mTwo X n 10 false 0 59).2.2 = true := g2
          unfold mLong
          rw [d1, if_neg (show ¬ bI true = 0 by decide)]; dsimp only
          rw [g2, rd_two_t]; dsimp only
          rw [if_neg (show ¬ bI true = 0 by decide), if_neg (show ¬ bI true = 0 by decide)]
          split <;> rfl
    · have h10 : n ≤ 240 := by
        rcases h14 with h | h
        · exact h
        · rw [h 10 (by omega)] at d1; exact absurd d1 (by decide)
      rcases rd_tail (a := 10) (v := 1) (m := 0) (s := 0) (U := 3600) (b := 0) (h := h) (g := g) (PD := PD) hb e3 (by omega) (Or.inl ⟨rfl, rfl, rfl, rfl, rfl⟩) (by omega) (by omega) (rdClock f n 1 (nI 8) hh 0 0 g 0) (mLong X n 10 false PD 0)
              (by
                unfold rdClock rdUnits
                rw [e1]; dsimp only
                rw [if_neg (nI_m1 (by omega)), if_pos d2]; dsimp only
                rw [if_neg (show ¬ (1 : Int32) = -1 by decide), if_neg (show ¬ (1 : Int32) = 0 by decide)]; rfl)
              (by
                unfold mLong
                rw [d1, if_pos (show bI false = 0 from rfl), if_pos (show bI false = 0 from rfl)]; rfl)
              with ⟨m', s', p, k, G, P, q1, q2, q3, q4, q5, q6, q7, q8⟩ | ⟨q1, q2⟩
      · left; exact ⟨h, m', s', p, k, G, P, by omega, q1, q2, q3, q4, q5, fun _ => by omega, by omega, q7, rfl, q8⟩
      · right; exact ⟨q1, q2⟩
  · right
    constructor
    · unfold rdClock rdUnits
      dsimp only
      rw [if_pos (show (rdPair f n (nI 8) 0 23).1 = -1 from e1)]; dsimp only
      rw [if_pos rfl]
    · have e2 : (mTwo X n 8 false 0 23).2.2 = true := e2
      rw [e2]
      exact rd_lo_t
