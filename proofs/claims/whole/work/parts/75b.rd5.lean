-- READING: the whole text
def rd_ok (C : Int32 × Int32 × Int32 × Int32 × Int32 × Int32 × Int32 × Int32 × Int32 × (Nat → Int32) × Nat) (R : Int32 × Int64 × Nat × Bool × (Nat → Int32) × Nat) : Prop :=
  C.1 = R.1 ∧ (R.1 = 0 → kt_time C.2.2.2.1 C.2.2.2.2.1 C.2.2.2.2.2.1 C.2.2.2.2.2.2.1 C.2.2.2.2.2.2.2.1 C.2.2.2.2.2.2.2.2.1 C.2.2.2.2.2.2.2.2.2.2 C.2.2.2.2.2.2.2.2.2.1 R.2.1 R.2.2.2.2.1 R.2.2.2.2.2)
theorem rd_fitsm {kind : Int32} : yFits kind (-1) = false := by
  unfold yFits
  split
  · rfl
  · rfl
theorem rd_tailz {f X : Nat → Int32} {n p Y M D h m s k lo hi : Nat} {kind zl zh : Int32} {al : Int64} {G P : Nat → Int32} (hb : bt_ok f n X) (hp : p < n) (hY : Y < 10000) (h1 : 1 ≤ M) (h2 : M ≤ 12) (hD : 1 ≤ D) (hD2 : D ≤ nDays Y M) (hh : h < 24) (hm : m < 60) (hs : s < 60)
    (hG : pd_ok G k) (hP : ∀ i, i < k → P i = G i) (hk : k ≤ 226) (hlo : lo ≤ 10000) (hhi : hi ≤ 10000) (el : zl = nI lo) (eh : zh = nI hi) (hf : ∀ Y' : Nat, Y' ≤ 10000 → (yFits kind (nI Y') = true ↔ lo ≤ Y' ∧ Y' < hi))
    (C : Int32 × Int32 × Int32 × Int32 × Int32 × Int32 × Int32 × Int32 × Int32 × (Nat → Int32) × Nat) (R : Int32 × Int64 × Nat × Bool × (Nat → Int32) × Nat)
    (hC : C = let v_57 := rdZone f n kind (nI p) 0
          if (bI v_57.1) = 0 then
            (1, v_57.2.1, v_57.2.2, nI Y, nI M, nI D, nI h, nI m, nI s, G, k)
          else
            if v_57.2.1 = (nI n) then
              let v_82 := movBy (nI Y) (nI M) (nI D) (nI h) (nI m) (-v_57.2.2)
              if (bI (yFits kind v_82.1)) = 0 then
                (3, v_57.2.1, v_57.2.2, v_82.1, v_82.2.1, v_82.2.2.1, v_82.2.2.2.1, v_82.2.2.2.2, nI s, G, k)
              else
                (0, v_57.2.1, v_57.2.2, v_82.1, v_82.2.1, v_82.2.2.1, v_82.2.2.2.1, v_82.2.2.2.2, nI s, G, k)
            else
              (1, v_57.2.1, v_57.2.2, nI Y, nI M, nI D, nI h, nI m, nI s, G, k))
    (hR : R = let v_99 := mZone X n p false kind
        if (bI v_99.2.2) = 0 then
          if (nI v_99.2.1) = (nI n) then
            if (lg_cmp ((((86400 * (mDayOf (nI Y) (nI M) (nI D)).toInt64) + (3600 * (nI h).toInt64)) + (nI (60 * m + s)).toInt64) - v_99.1.toInt64) (86400 * (mDayOf zl 1 1).toInt64)) < 0 then
              (3, (((86400 * (mDayOf (nI Y) (nI M) (nI D)).toInt64) + (3600 * (nI h).toInt64)) + (nI (60 * m + s)).toInt64) - v_99.1.toInt64, v_99.2.1, v_99.2.2, P, k)
            else
              if (lg_cmp ((((86400 * (mDayOf (nI Y) (nI M) (nI D)).toInt64) + (3600 * (nI h).toInt64)) + (nI (60 * m + s)).toInt64) - v_99.1.toInt64) (86400 * (mDayOf zh 1 1).toInt64)) < 0 then
                (0, (((86400 * (mDayOf (nI Y) (nI M) (nI D)).toInt64) + (3600 * (nI h).toInt64)) + (nI (60 * m + s)).toInt64) - v_99.1.toInt64, v_99.2.1, v_99.2.2, P, k)
              else
                (3, (((86400 * (mDayOf (nI Y) (nI M) (nI D)).toInt64) + (3600 * (nI h).toInt64)) + (nI (60 * m + s)).toInt64) - v_99.1.toInt64, v_99.2.1, v_99.2.2, P, k)
          else
            (1, al, v_99.2.1, v_99.2.2, P, k)
        else
          (1, al, v_99.2.1, v_99.2.2, P, k)) : rd_ok C R := by
  have hn := hb.1
  have n10 : ¬ (1 : Int32) = 0 := by decide
  have n30 : ¬ (3 : Int32) = 0 := by decide
  rcases rd_zone (kind := kind) hb hp with ⟨V, W, p', hZ, hp', e1, e2⟩ | ⟨e1, e2⟩
  · rw [e1] at hC
    rw [e2] at hR
    dsimp only at hC hR
    rw [if_neg (show ¬ bI true = 0 by decide)] at hC
    rw [if_pos (show bI false = 0 from rfl)] at hR
    by_cases c : p' = n
    · subst c
      rw [if_pos rfl] at hC hR
      rw [rd_B hlo zl el, rd_B hhi zh eh] at hR
      rcases rd_move (s := s) hY h1 h2 hD hD2 hh hm hs hZ with ⟨Y', M', D', h', m', a1, a2, a3, a4, a5, a6, a7, a8, a9⟩ | ⟨a1, a2⟩
      · rw [a8] at hC
        rw [a9] at hR
        dsimp only at hC hR
        obtain ⟨r1, r2⟩ := rd_range (r := 3600 * h' + 60 * m' + s) (al := lN (86400 * nDay Y' M' D' + 3600 * h' + 60 * m' + s)) a2 a3 a4 a5 a1 (by omega) (by refine congrArg lN ?_; omega) hlo hhi (hf Y' a1)
        by_cases cf : bI (yFits kind (nI Y')) = 0
        · rw [if_pos cf] at hC
          rcases r1 cf with q | ⟨q, q'⟩
          · rw [if_pos q] at hR
            rw [hC, hR]
            exact ⟨rfl, fun w => absurd w n30⟩
          · rw [if_neg q, if_neg q'] at hR
            rw [hC, hR]
            exact ⟨rfl, fun w => absurd w n30⟩
        · rw [if_neg cf] at hC
          obtain ⟨q, q', q1, q2⟩ := r2 cf
          rw [if_neg q, if_pos q'] at hR
          rw [hC, hR]
          exact ⟨rfl, fun _ => ⟨Y', M', D', h', m', s, rfl, rfl, rfl, rfl, rfl, rfl, by omega, a2, a3, a4, a5, a6, a7, hs, rfl, rfl, hk, hG, hP⟩⟩
      · rw [a1, rd_fitsm, if_pos (show bI false = 0 from rfl)] at hC
        have b1 := nu_to_le lo
        have : lg_cmp ((((86400 * (mDayOf (nI Y) (nI M) (nI D)).toInt64) + (3600 * (nI h).toInt64)) + (nI (60 * m + s)).toInt64) - W.toInt64) (lN (86400 * nTo lo)) < 0 := by
          rw [lg_cmp_lt, Int64.lt_iff_toInt_lt]
          rw [Int64.lt_iff_toInt_lt, pk_lT (by omega)] at a2
          rw [pk_lT (by omega)]
          omega
        rw [if_pos this] at hR
        rw [hC, hR]
        exact ⟨rfl, fun w => absurd w n30⟩
    · rw [if_neg (fun w => c (by rw [nI_eq (by omega) (by omega)] at w; exact w))] at hC hR
      rw [hC, hR]
      exact ⟨rfl, fun w => absurd w n10⟩
  · dsimp only at hC hR
    rw [e1, if_pos (show bI false = 0 from rfl)] at hC
    rw [e2, if_neg (show ¬ bI true = 0 by decide)] at hR
    rw [hC, hR]
    exact ⟨rfl, fun w => absurd w n10⟩
theorem mAll_0 {X : Nat → Int32} {n : Nat} {PD : Nat → Int32} {al : Int64} {y1 y2 y3 y4 sc : Int32} {a b c d p : Nat} {w1 w2 w3 w4 w5 : Bool}
   (e2 : mYear X n 0 false 0 = (y1, a, w1)) (e3 : mTwo X n a w1 1 12 = (y2, b, w2)) (e4 : mTwo X n b w2 1 (mDays y1 y2) = (y3, c, w3)) (e5: mTwo X n c w3 0 23 = (y4, d, w4)) (e6 : mShort X n d w4 = (sc, p, w5)) :
   mAll X n PD 0 al = if (bI w5) = 0 then
      if (nI p) = (nI n) then
        (1, al, p, w5, PD, 0)
      else
        let v_99 := mZone X n p w5 0
        if (bI v_99.2.2) = 0 then
          if (nI v_99.2.1) = (nI n) then
            if (lg_cmp ((((86400 * (mDayOf y1 y2 y3).toInt64) + (3600 * y4.toInt64)) + sc.toInt64) - v_99.1.toInt64) (86400 * (mDayOf 1950 1 1).toInt64)) < 0 then
              (3, (((86400 * (mDayOf y1 y2 y3).toInt64) + (3600 * y4.toInt64)) + sc.toInt64) - v_99.1.toInt64, v_99.2.1, v_99.2.2, PD, 0)
            else
              if (lg_cmp ((((86400 * (mDayOf y1 y2 y3).toInt64) + (3600 * y4.toInt64)) + sc.toInt64) - v_99.1.toInt64) (86400 * (mDayOf 2050 1 1).toInt64)) < 0 then
                (0, (((86400 * (mDayOf y1 y2 y3).toInt64) + (3600 * y4.toInt64)) + sc.toInt64) - v_99.1.toInt64, v_99.2.1, v_99.2.2, PD, 0)
              else
                (3, (((86400 * (mDayOf y1 y2 y3).toInt64) + (3600 * y4.toInt64)) + sc.toInt64) - v_99.1.toInt64, v_99.2.1, v_99.2.2, PD, 0)
          else
            (1, al, v_99.2.1, v_99.2.2, PD, 0)
        else
          (1, al, v_99.2.1, v_99.2.2, PD, 0)
    else
      (1, al, p, w5, PD, 0) := by
  unfold mAll
  simp only [e2, e3, e4, e5, e6, if_true]
theorem mAll_1 {X : Nat → Int32} {n : Nat} {PD : Nat → Int32} {al : Int64} {y1 y2 y3 y4 sc : Int32} {a b c d p k : Nat} {P : Nat → Int32} {w1 w2 w3 w4 w5 : Bool}
   (e2 : mYear X n 0 false 1 = (y1, a, w1)) (e3 : mTwo X n a w1 1 12 = (y2, b, w2)) (e4 : mTwo X n b w2 1 (mDays y1 y2) = (y3, c, w3)) (e5: mTwo X n c w3 0 23 = (y4, d, w4)) (e6 : mLong X n d w4 PD 0 = (sc, p, w5, P, k)) :
   mAll X n PD 1 al = if (bI w5) = 0 then
      if (nI p) = (nI n) then
        (2, al, p, w5, P, k)
      else
        let v_99 := mZone X n p w5 1
        if (bI v_99.2.2) = 0 then
          if (nI v_99.2.1) = (nI n) then
            if (lg_cmp ((((86400 * (mDayOf y1 y2 y3).toInt64) + (3600 * y4.toInt64)) + sc.toInt64) - v_99.1.toInt64) (86400 * (mDayOf 0 1 1).toInt64)) < 0 then
              (3, (((86400 * (mDayOf y1 y2 y3).toInt64) + (3600 * y4.toInt64)) + sc.toInt64) - v_99.1.toInt64, v_99.2.1, v_99.2.2, P, k)
            else
              if (lg_cmp ((((86400 * (mDayOf y1 y2 y3).toInt64) + (3600 * y4.toInt64)) + sc.toInt64) - v_99.1.toInt64) (86400 * (mDayOf 10000 1 1).toInt64)) < 0 then
                (0, (((86400 * (mDayOf y1 y2 y3).toInt64) + (3600 * y4.toInt64)) + sc.toInt64) - v_99.1.toInt64, v_99.2.1, v_99.2.2, P, k)
              else
                (3, (((86400 * (mDayOf y1 y2 y3).toInt64) + (3600 * y4.toInt64)) + sc.toInt64) - v_99.1.toInt64, v_99.2.1, v_99.2.2, P, k)
          else
            (1, al, v_99.2.1, v_99.2.2, P, k)
        else
          (1, al, v_99.2.1, v_99.2.2, P, k)
    else
      (1, al, p, w5, P, k) := by
  unfold mAll
  simp only [e2, e3, e4, e5, e6, show ¬ (1 : Int32) = 0 by decide, if_false]
theorem mAll_0f {X : Nat → Int32} {n : Nat} {PD : Nat → Int32} {al : Int64} {y1 y2 y3 y4 : Int32} {a b c d : Nat} {w1 w2 w3 w4 : Bool}
   (e2 : mYear X n 0 false 0 = (y1, a, w1)) (e3 : mTwo X n a w1 1 12 = (y2, b, w2)) (e4 : mTwo X n b w2 1 (mDays y1 y2) = (y3, c, w3)) (e5: mTwo X n c w3 0 23 = (y4, d, w4)) (e6 : (mShort X n d w4).2.2 = true) : (mAll X n PD 0 al).1 = 1 := by
  rcases h : mShort X n d w4 with ⟨sc, p, w5⟩
  rw [h] at e6
  have e6 : w5 = true := e6
  subst e6
  rw [mAll_0 e2 e3 e4 e5 h, if_neg (show ¬ bI true = 0 by decide)]
theorem mAll_1f {X : Nat → Int32} {n : Nat} {PD : Nat → Int32} {al : Int64} {y1 y2 y3 y4 : Int32} {a b c d : Nat} {w1 w2 w3 w4 : Bool}
   (e2 : mYear X n 0 false 1 = (y1, a, w1)) (e3 : mTwo X n a w1 1 12 = (y2, b, w2)) (e4 : mTwo X n b w2 1 (mDays y1 y2) = (y3, c, w3)) (e5: mTwo X n c w3 0 23 = (y4, d, w4)) (e6 : (mLong X n d w4 PD 0).2.2.1 = true) : (mAll X n PD 1 al).1 = 1 := by
  rcases h : mLong X n d w4 PD 0 with ⟨sc, p, w5, P, k⟩
  rw [h] at e6
  have e6 : w5 = true := e6
  subst e6
  rw [mAll_1 e2 e3 e4 e5 h, if_neg (show ¬ bI true = 0 by decide)]
theorem rd_all0 {f X : Nat → Int32} {n k : Nat} {mo d hh : Int32} {al : Int64} {g PD : Nat → Int32} (hb : bt_ok f n X) : rd_ok (rdFault f n 0 mo d hh g k) (mAll X n PD 0 al) := by
  have hn := hb.1
  have n10 : ¬ (1 : Int32) = 0 := by decide
  rcases rd_date0 (mo := mo) (d := d) hb with ⟨Y, M, D, a, y1, y2, m1, m2, d1, d2, p6, e1, e2, e3, e4⟩ | ⟨e1, e2⟩
  · rcases rd_clk0 (t := 6) (hh := hh) (g := g) hb (by omega) with ⟨h, m, s, p, b1, b2, b3, b4, g1, g2, g3⟩ | ⟨g1, g2⟩
    · by_cases c : p < n
      · refine rd_tailz (Y := Y) (M := M) (D := D) (h := h) (m := m) (s := s) (k := 0) (lo := 1950) (hi := 2050) (kind := 0) (zl := 1950) (zh := 2050) (al := al) (G := g) (P := PD) hb c (by omega) m1 m2 d1 d2 b1 b2 b3 (fun i hi => absurd hi (by omega)) (fun i hi => absurd hi (by omega)) (by omega) (by omega) (by omega) rfl rfl (fun Y' q => rd_fits0 q) _ _ ?_ ?_
        · unfold rdFault
          rw [e1]; dsimp only
          rw [if_neg (show ¬ bI true = 0 by decide), show rdClock f n 0 (nI 6) hh 0 0 g 0 = _ from g1]; dsimp only
          rw [if_neg (show ¬ bI true = 0 by decide), if_neg (show ¬ (0 : Int32) = 1 by decide)]
        · rw [mAll_0 e2 e3 e4 g2 g3, if_pos (show bI false = 0 from rfl), if_neg (fun w => by rw [nI_eq (by omega) (by omega)] at w; omega)]
      · have hpn : p = n := by omega
        have hC : (rdFault f n 0 mo d hh g k).1 = 1 := by
          unfold rdFault
          rw [e1]; dsimp only
          rw [if_neg (show ¬ bI true = 0 by decide), show rdClock f n 0 (nI 6) hh 0 0 g 0 = _ from g1]; dsimp only
          have hz := rd_zone_out (f := f) (X := X) (n := n) (p := p) (kind := 0) (ah := 0) (by omega) (by omega)
          rcases hc : rdZone f n 0 (nI p) 0 with ⟨b0, rest⟩
          rw [hc] at hz
          have hz : b0 = false := hz
          subst hz
          rewrite [if_neg (show ¬ bI true = 0 by decide), if_neg (show ¬ (0 : Int32) = 1 by decide), if_pos (show bI false = 0 from rfl)]; rfl
        have hR : (mAll X n PD 0 al).1 = 1 := by
          rw [mAll_0 e2 e3 e4 g2 g3, if_pos (show bI false = 0 from rfl), if_pos (by rw [hpn])]
        exact ⟨by rw [hC, hR], fun w => absurd (hR.symm.trans w) n10⟩
    · have hC : (rdFault f n 0 mo d hh g k).1 = 1 := by
        rcases hc : rdClock f n 0 (nI 6) hh 0 0 g 0 with ⟨b0, rest⟩
        rw [hc] at g1
        have g1 : b0 = false := g1
        subst g1
        unfold rdFault
        rewrite [e1]; dsimp only
        rewrite [if_neg (show ¬ bI true = 0 by decide), hc]; dsimp only
        rewrite [if_pos (show bI false = 0 from rfl)]; rfl
      have hR : (mAll X n PD 0 al).1 = 1 := by
        rcases h5 : mTwo X n 6 false 0 23 with ⟨y4, d4, w4⟩
        rw [h5] at g2
        exact mAll_0f e2 e3 e4 h5 g2
      exact ⟨by rw [hC, hR], fun w => absurd (hR.symm.trans w) n10⟩
  · dsimp only at e2
    have hC : (rdFault f n 0 mo d hh g k).1 = 1 := by
      rcases hc : rdDate f n 0 0 mo d with ⟨b0, rest⟩
      rw [hc] at e1
      have e1 : b0 = false := e1
      subst e1
      unfold rdFault
      rewrite [hc]; dsimp only
      rewrite [if_pos (show bI false = 0 from rfl)]; rfl
    have hR : (mAll X n PD 0 al).1 = 1 := by
      rcases h1 : mYear X n 0 false 0 with ⟨y1, a, w1⟩
      rw [h1] at e2
      rcases h2 : mTwo X n a w1 1 12 with ⟨y2, b, w2⟩
      rw [h2] at e2
      rcases h3 : mTwo X n b w2 1 (mDays y1 y2) with ⟨y3, c, w3⟩
      rw [h3] at e2
      have e2 : w3 = true := e2
      subst e2
      exact mAll_0f h1 h2 h3 rd_two_t rd_sh_t
    exact ⟨by rw [hC, hR], fun w => absurd (hR.symm.trans w) n10⟩
theorem rd_all1 {f X : Nat → Int32} {n k : Nat} {mo d hh : Int32} {al : Int64} {g PD : Nat → Int32} (hb : bt_ok f n X) (h14 : n ≤ 240 ∨ ∀ i, i < 14 → mDig X n i = true) : rd_ok (rdFault f n 1 mo d hh g k) (mAll X n PD 1 al) := by
  have hn := hb.1
  have n10 : ¬ (1 : Int32) = 0 := by decide
  have n20 : ¬ (2 : Int32) = 0 := by decide
  rcases rd_date1 (mo := mo) (d := d) hb with ⟨Y, M, D, a, y1, y2, m1, m2, d1, d2, p8, e1, e2, e3, e4⟩ | ⟨e1, e2⟩
  · rcases rd_clk1 (hh := hh) (g := g) (PD := PD) hb h14 p8 with ⟨h, m, s, p, kk, G, P, b1, b2, b3, b4, b5, b6, b7, b8, g1, g2, g3⟩ | ⟨g1, g2⟩
    · by_cases c : p < n
      · refine rd_tailz (Y := Y) (M := M) (D := D) (h := h) (m := m) (s := s) (k := kk) (lo := 0) (hi := 10000) (kind := 1) (zl := 0) (zh := 10000) (al := al) (G := G) (P := P) hb c (by omega) m1 m2 d1 d2 b1 b2 b3 b5 b6 (b7 c) (by omega) (by omega) rfl rfl (fun Y' q => rd_fits1 q) _ _ ?_ ?_
        · unfold rdFault
          rw [e1]; dsimp only
          rw [if_neg (show ¬ bI true = 0 by decide), show rdClock f n 1 (nI 8) hh 0 0 g 0 = _ from g1]; dsimp only
          rw [if_neg (show ¬ bI true = 0 by decide), if_pos rfl, if_neg (fun w => by rw [nI_eq (by omega) (by omega)] at w; omega)]
        · rw [mAll_1 e2 e3 e4 g2 g3, if_pos (show bI false = 0 from rfl), if_neg (fun w => by rw [nI_eq (by omega) (by omega)] at w; omega)]
      · have hpn : p = n := by omega
        have hC : (rdFault f n 1 mo d hh g k).1 = 2 := by
          unfold rdFault
          rw [e1]; dsimp only
          rw [if_neg (show ¬ bI true = 0 by decide), show rdClock f n 1 (nI 8) hh 0 0 g 0 = _ from g1]; dsimp only
          rw [if_neg (show ¬ bI true = 0 by decide), if_pos rfl, if_pos (by rw [hpn])]
        have hR : (mAll X n PD 1 al).1 = 2 := by
          rw [mAll_1 e2 e3 e4 g2 g3, if_pos (show bI false = 0 from rfl), if_pos (by rw [hpn])]
        exact ⟨by rw [hC, hR], fun w => absurd (hR.symm.trans w) n20⟩
    · have hC : (rdFault f n 1 mo d hh g k).1 = 1 := by
        rcases hc : rdClock f n 1 (nI 8) hh 0 0 g 0 with ⟨b0, rest⟩
        rw [hc] at g1
        have g1 : b0 = false := g1
        subst g1
        unfold rdFault
        rewrite [e1]; dsimp only
        rewrite [if_neg (show ¬ bI true = 0 by decide), hc]; dsimp only
        rewrite [if_pos (show bI false = 0 from rfl)]; rfl
      have hR : (mAll X n PD 1 al).1 = 1 := by
        rcases h5 : mTwo X n 8 false 0 23 with ⟨y4, d4, w4⟩
        rw [h5] at g2
        exact mAll_1f e2 e3 e4 h5 g2
      exact ⟨by rw [hC, hR], fun w => absurd (hR.symm.trans w) n10⟩
  · dsimp only at e2
    have hC : (rdFault f n 1 mo d hh g k).1 = 1 := by
      rcases hc : rdDate f n 1 0 mo d with ⟨b0, rest⟩
      rw [hc] at e1
      have e1 : b0 = false := e1
      subst e1
      unfold rdFault
      rewrite [hc]; dsimp only
      rewrite [if_pos (show bI false = 0 from rfl)]; rfl
    have hR : (mAll X n PD 1 al).1 = 1 := by
      rcases h1 : mYear X n 0 false 1 with ⟨y1, a, w1⟩
      rw [h1] at e2
      rcases h2 : mTwo X n a w1 1 12 with ⟨y2, b, w2⟩
      rw [h2] at e2
      rcases h3 : mTwo X n b w2 1 (mDays y1 y2) with ⟨y3, c, w3⟩
      rw [h3] at e2
      have e2 : w3 = true := e2
      subst e2
      exact mAll_1f h1 h2 h3 rd_two_t rd_lo_t
    exact ⟨by rw [hC, hR], fun w => absurd (hR.symm.trans w) n10⟩
