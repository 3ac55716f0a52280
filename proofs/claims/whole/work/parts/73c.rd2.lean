-- READING: part, clock, zone
theorem rd_rApp {g : Nat → Int32} {k q : Nat} (hk : k < 242) (hq : q < 128) : rApp g k (nI q) = (upd g k (nI q), k + 1) := by
  unfold rApp
  rw [if_pos hk, pt_i8 hq]
theorem rd_part {f X : Nat → Int32} {n : Nat} (hb : bt_ok f n X) : ∀ (N t k : Nat) (g P : Nat → Int32), N = n - t → k + N < 242 → t ≤ n → pd_ok g k → (∀ i, i < k → P i = g i) →
    ∃ (e j : Nat) (G Q : Nat → Int32), ptL f n N t g k = (e, G, j) ∧ rpL X n false N t P k = (e, Q, j) ∧ pd_ok G j ∧ (∀ i, i < j → Q i = G i) ∧ e ≤ n ∧ t ≤ e ∧ j = k + (e - t) ∧ (mDig X n t = true → t < e) ∧ (mDig X n t = false → e = t) := by
  have hn := hb.1
  intro N
  induction N with
  | zero =>
    intro t k g P h0 h1 h2 h3 h4
    refine ⟨t, k, g, P, rfl, rfl, h3, h4, h2, Nat.le_refl _, by omega, fun q => ?_, fun _ => rfl⟩
    exfalso
    unfold mDig at q
    rw [if_pos (nI_le (by omega) (by omega))] at q
    exact absurd q (by decide)
  | succ N ih =>
    intro t k g P h0 h1 h2 h3 h4
    have ep : ptL f n (N + 1) t g k = if n ≤ t then (t, g, k) else if rDigit f n (nI t) = -1 then (t, g, k) else ptL f n N (t + 1) (rApp g k (rDigit f n (nI t))).1 (rApp g k (rDigit f n (nI t))).2 := rfl
    have er : rpL X n false (N + 1) t P k = if bI false = 0 then (if bI (mDig X n t) = 0 then (t, P, k) else rpL X n false N (t + 1) (upd P k (X t - 48)) (k + 1)) else (t, P, k) := rfl
    rw [ep, er, if_neg (by omega), if_pos (show bI false = 0 from rfl)]
    rcases rd_dig hb (t := t) (by omega) with ⟨q, hq, d1, d2, d3, d4⟩ | ⟨d1, d2⟩
    · rw [d1, if_neg (show ¬ bI true = 0 by decide), d3, if_neg (nI_m1 (by omega)), rd_rApp (by omega) (by omega), d2, nu_l48, pk_sub (by omega), show 48 + q - 48 = q by omega]
      obtain ⟨e, j, G, Q, i1, i2, i3, i4, i5, i6, i7, i8, i9⟩ := ih (t + 1) (k + 1) (upd g k (nI q)) (upd P k (nI q)) (by omega) (by omega) (by omega)
        (fun i hi => by
          by_cases hik : i = k
          · subst hik; exact ⟨q, hq, pk_us⟩
          · rw [pk_un hik]; exact h3 i (by omega))
        (fun i hi => by
          by_cases hik : i = k
          · subst hik; rw [pk_us, pk_us]
          · rw [pk_un hik, pk_un hik]; exact h4 i (by omega))
      exact ⟨e, j, G, Q, i1, i2, i3, i4, i5, by omega, by omega, fun _ => by omega, fun z => by simp at z⟩
    · rw [d1, if_pos (show bI false = 0 from rfl), if_pos d2]
      exact ⟨t, k, g, P, rfl, rfl, h3, h4, h2, Nat.le_refl _, by omega, fun z => by simp at z, fun _ => rfl⟩
theorem rd_rp_true {X : Nat → Int32} {mz ma : Nat} {PD : Nat → Int32} {dg : Nat} {u : Int32} (h : mDig X mz (ma + 1) = false) : (mRp X mz ma false PD dg u).2.2.1 = true := by
  unfold mRp
  rw [if_pos (show bI false = 0 from rfl), h, if_pos (show bI false = 0 from rfl)]
theorem rd_rp {X : Nat → Int32} {mz ma e j : Nat} {PD Q : Nat → Int32} {dg : Nat} {u : Int32} (h : mDig X mz (ma + 1) = true) (hr : rpL X mz false (mz - (ma + 1)) (ma + 1) PD dg = (e, Q, j)) :
    mRp X mz ma false PD dg u = ((smL u j Q 0).2, e, false, (smL u j Q 0).1, stL (smL u j Q 0).1 j) := by
  unfold mRp
  rw [if_pos (show bI false = 0 from rfl), h, if_neg (show ¬ bI true = 0 by decide), hr]
theorem rd_sh_t {X : Nat → Int32} {mz ma : Nat} : (mShort X mz ma true).2.2 = true := by
  unfold mShort
  rw [rd_two_t]
  dsimp only
  split
  · rfl
  · rw [rd_two_t]
theorem rd_lo_t {X : Nat → Int32} {mz ma : Nat} {PD : Nat → Int32} {dg : Nat} : (mLong X mz ma true PD dg).2.2.1 = true := by
  unfold mLong
  split
  · rfl
  · rw [rd_two_t]
    dsimp only
    split
    · rfl
    · rfl
/-- a short clock -/
theorem rd_clk0 {f X : Nat → Int32} {n t : Nat} {hh : Int32} {g : Nat → Int32} (hb : bt_ok f n X) (ht : t < 100) :
    (∃ h m s p : Nat, h < 24 ∧ m < 60 ∧ s < 60 ∧ p ≤ n ∧ rdClock f n 0 (nI t) hh 0 0 g 0 = (true, nI p, nI h, nI m, nI s, g, 0) ∧ mTwo X n t false 0 23 = (nI h, t + 2, false) ∧ mShort X n (t + 2) false = (nI (60 * m + s), p, false)) ∨
    ((rdClock f n 0 (nI t) hh 0 0 g 0).1 = false ∧ (mShort X n (mTwo X n t false 0 23).2.1 (mTwo X n t false 0 23).2.2).2.2 = true) := by
  have hn := hb.1
  unfold rdClock rdUnits
  rcases rd_pair (l := 0) (h := 23) (t := t) hb (by omega) (by omega) (by omega) with ⟨h, v1, v2, v3, e1, e2, e3, e4, e5⟩ | ⟨e1, e2, e3⟩
  · rw [show rdPair f n (nI t) 0 23 = (nI h, nI (t + 2)) from e1, show mTwo X n t false 0 23 = (nI h, t + 2, false) from e2]
    dsimp only
    rw [if_neg (nI_m1 (by omega))]
    rcases rd_dig hb (t := t + 2) (by omega) with ⟨q, hq, d1, d2, d3, d4⟩ | ⟨d1, d2⟩
    · rw [d3, if_neg (nI_m1 (by omega))]
      rcases rd_pair (l := 0) (h := 59) (t := t + 2) hb (by omega) (by omega) (by omega) with ⟨m, w1, w2, w3, g1, g2, g3, g4, g5⟩ | ⟨g1, g2, g3⟩
      · rw [show rdPair f n (nI (t + 2)) 0 59 = (nI m, nI (t + 4)) from g1]
        dsimp only
        rw [if_neg (nI_m1 (by omega))]
        have hs : mShort X n (t + 2) false = if bI (mDig X n (t + 4)) = 0 then (60 * nI m, t + 4, false) else (60 * nI m + (mTwo X n (t + 4) false 0 59).1, (mTwo X n (t + 4) false 0 59).2.1, (mTwo X n (t + 4) false 0 59).2.2) := by
          unfold mShort
          rw [show mTwo X n (t + 2) false 0 59 = (nI m, t + 4, false) from g2]
        rw [hs]
        rcases rd_dig hb (t := t + 4) (by omega) with ⟨q', hq', d1', d2', d3', d4'⟩ | ⟨d1', d2'⟩
        · rw [d3', if_neg (nI_m1 (by omega)), d1', if_neg (show ¬ bI true = 0 by decide)]
          rcases rd_pair (l := 0) (h := 59) (t := t + 4) hb (by omega) (by omega) (by omega) with ⟨s, x1, x2, x3, k1, k2, k3, k4, k5⟩ | ⟨k1, k2, k3⟩
          · left
            rw [show rdPair f n (nI (t + 4)) 0 59 = (nI s, nI (t + 6)) from k1, show mTwo X n (t + 4) false 0 59 = (nI s, t + 6, false) from k2]
            dsimp only
            rw [if_neg (nI_m1 (by omega))]
            dsimp only
            rw [if_neg (show ¬ (3 : Int32) = -1 by decide), if_pos rfl, if_neg (show ¬ (3 : Int32) < 2 by decide)]
            exact ⟨h, m, s, t + 6, by omega, by omega, by omega, by omega, rfl, rfl, by rw [nu_l60, pk_mul, nI_add]⟩
          · right
            rw [if_pos (show (rdPair f n (nI (t + 4)) 0 59).1 = -1 from k1), if_pos rfl]
            exact ⟨rfl, k2⟩
        · left
          rw [if_pos d2', d1', if_pos (show bI false = 0 from rfl)]
          dsimp only
          rw [if_neg (by decide), if_pos rfl, if_neg (by decide)]
          exact ⟨h, m, 0, t + 4, by omega, by omega, by omega, by omega, rfl, rfl, by rw [nu_l60, pk_mul]; rfl⟩
      · right
        rw [if_pos (show (rdPair f n (nI (t + 2)) 0 59).1 = -1 from g1), if_pos rfl]
        refine ⟨rfl, ?_⟩
        unfold mShort
        dsimp only
        have g2 : (mTwo X n (t + 2) false 0 59).2.2 = true := g2
        rw [g2]
        split
        · rfl
        · rfl
    · right
      rw [if_pos d2]
      dsimp only
      rw [if_neg (by decide), if_pos rfl, if_pos (by decide)]
      refine ⟨rfl, ?_⟩
      have : (mTwo X n (t + 2) false 0 59).2.2 = true := by
        unfold mTwo
        rw [rd_num_f d1]; rfl
      unfold mShort
      dsimp only
      rw [this]
      split
      · rfl
      · rfl
  · right
    have e2 : (mTwo X n t false 0 23).2.2 = true := e2
    rw [if_pos (show (rdPair f n (nI t) 0 23).1 = -1 from e1), e2]
    dsimp only
    rw [if_pos rfl]
    exact ⟨rfl, rd_sh_t⟩
/-- the zone -/
theorem rd_zone_t {X : Nat → Int32} {n ma : Nat} {kind : Int32} (h1 : ma < n) (hn : n ≤ 242) (h2 : ¬ X ma = 90) (h3 : ¬ X ma = 43) (h4 : ¬ X ma = 45) : (mZone X n ma false kind).2.2 = true := by
  unfold mZone
  rw [if_neg (nI_ge h1 (by omega)), if_neg h2, if_pos (show bI false = 0 from rfl), if_neg h3, if_neg h4, rd_two_t]
  dsimp only
  rw [rd_two_t]
  split
  · rfl
  · split <;> rfl
def rd_Z (V W : Int32) : Prop := ∃ zz : Nat, zz < 1440 ∧ ((V = nI zz ∧ W = nI (60 * zz)) ∨ (V = -(nI zz) ∧ W = 0 - nI (60 * zz)))
theorem rd_zone_out {f X : Nat → Int32} {n p : Nat} {kind ah : Int32} (hp : n ≤ p) (hp2 : p < 1000) : (rdZone f n kind (nI p) ah).1 = false := by
  unfold rdZone
  rw [rd_out hp (by omega), if_neg (by decide), if_neg (by decide), if_neg (by decide)]
theorem rd_zpair {f X : Nat → Int32} {n p : Nat} {kind : Int32} (hb : bt_ok f n X) (hp : p < 300) :
    (∃ zz p' : Nat, zz < 1440 ∧ p' ≤ n ∧ (∀ (Q : Bool × Int32 × Int32 → Prop) (σ : Int32 → Int32) (F : Int32 → Bool × Int32 × Int32), Q (true, nI p', σ (nI zz)) → Q (let v_46 := rdPair f n (nI p) 0 23
      if v_46.1 = (-1) then F v_46.2 else
        if kind = 0 then
          let v_83 := rdPair f n v_46.2 0 59
          if v_83.1 = (-1) then F v_83.2 else (true, v_83.2, σ ((v_46.1 * 60) + v_83.1))
        else
          if (rDigit f n v_46.2) = (-1) then
            (true, v_46.2, σ ((v_46.1 * 60) + 0))
          else
            let v_83 := rdPair f n v_46.2 0 59
            if v_83.1 = (-1) then F v_83.2 else (true, v_83.2, σ ((v_46.1 * 60) + v_83.1)))) ∧
      (∀ (τ : Int32 → Int32), (let v_78 := mTwo X n p false 0 23
        if kind = 0 then
          let v_101 := mTwo X n v_78.2.1 v_78.2.2 0 59
          (τ ((3600 * v_78.1) + (60 * v_101.1)), v_101.2.1, v_101.2.2)
        else
          if (bI (mDig X n v_78.2.1)) = 0 then
            (τ (3600 * v_78.1), v_78.2.1, v_78.2.2)
          else
            let v_101 := mTwo X n v_78.2.1 v_78.2.2 0 59
            (τ ((3600 * v_78.1) + (60 * v_101.1)), v_101.2.1, v_101.2.2)) = (τ (nI (60 * zz)), p', false))) ∨
    ((∀ (Q : Bool × Int32 × Int32 → Prop) (σ : Int32 → Int32) (F : Int32 → Bool × Int32 × Int32), (∀ x, Q (F x)) → Q (let v_46 := rdPair f n (nI p) 0 23
      if v_46.1 = (-1) then F v_46.2 else
        if kind = 0 then
          let v_83 := rdPair f n v_46.2 0 59
          if v_83.1 = (-1) then F v_83.2 else (true, v_83.2, σ ((v_46.1 * 60) + v_83.1))
        else
          if (rDigit f n v_46.2) = (-1) then
            (true, v_46.2, σ ((v_46.1 * 60) + 0))
          else
            let v_83 := rdPair f n v_46.2 0 59
            if v_83.1 = (-1) then F v_83.2 else (true, v_83.2, σ ((v_46.1 * 60) + v_83.1)))) ∧
      (∀ (τ : Int32 → Int32), (let v_78 := mTwo X n p false 0 23
        if kind = 0 then
          let v_101 := mTwo X n v_78.2.1 v_78.2.2 0 59
          (τ ((3600 * v_78.1) + (60 * v_101.1)), v_101.2.1, v_101.2.2)
        else
          if (bI (mDig X n v_78.2.1)) = 0 then
            (τ (3600 * v_78.1), v_78.2.1, v_78.2.2)
          else
            let v_101 := mTwo X n v_78.2.1 v_78.2.2 0 59
            (τ ((3600 * v_78.1) + (60 * v_101.1)), v_101.2.1, v_101.2.2)).2.2 = true)) := by
  have hn := hb.1
  rcases rd_pair (l := 0) (h := 23) (t := p) hb (by omega) (by omega) (by omega) with ⟨h, v1, v2, v3, e1, e2, e3, e4, e5⟩ | ⟨e1, e2, e3⟩
  · rw [show rdPair f n (nI p) 0 23 = (nI h, nI (p + 2)) from e1, show mTwo X n p false 0 23 = (nI h, p + 2, false) from e2]
    dsimp only
    simp only [nI_m1 (show h < 2 ^ 31 by omega), if_false]
    rcases rd_pair (l := 0) (h := 59) (t := p + 2) hb (by omega) (by omega) (by omega) with ⟨m, w1, w2, w3, g1, g2, g3, g4, g5⟩ | ⟨g1, g2, g3⟩
    · rw [show rdPair f n (nI (p + 2)) 0 59 = (nI m, nI (p + 4)) from g1, show mTwo X n (p + 2) false 0 59 = (nI m, p + 4, false) from g2, g4]
      dsimp only
      simp only [nI_m1 (show m < 2 ^ 31 by omega), if_false]
      left
      have hd : ¬ rDigit f n (nI (p + 2)) = -1 := by
        rcases rd_dig hb (t := p + 2) (by omega) with ⟨q, hq, d1, d2, d3, d4⟩ | ⟨d1, d2⟩
        · rw [d3]; exact nI_m1 (by omega)
        · rw [g4] at d1; exact absurd d1 (by decide)
      refine ⟨60 * h + m, p + 4, by omega, g3, fun Q σ F hQ => ?_, fun τ => ?_⟩
      · have ez : nI h * 60 + nI m = nI (60 * h + m) := by rw [nu_l60, pk_mul, nI_add]; congr 1; omega
        rw [if_neg hd, ez]
        split <;> exact hQ
      · have ez : 3600 * nI h + 60 * nI m = nI (60 * (60 * h + m)) := by rw [nu_l60, nu_l3600, pk_mul, pk_mul, nI_add]; congr 1; omega
        rw [if_neg (show ¬ bI true = 0 by decide), ez]
        split <;> rfl
    · by_cases hk : kind = 0
      · right
        subst hk
        simp only [if_true]
        refine ⟨fun Q σ F hF => ?_, fun τ => g2⟩
        rw [if_pos (show (rdPair f n (nI (p + 2)) 0 59).1 = -1 from g1)]
        exact hF _
      · simp only [hk, if_false]
        rcases rd_dig hb (t := p + 2) (by omega) with ⟨q, hq, d1, d2, d3, d4⟩ | ⟨d1, d2⟩
        · right
          rw [d1, d3]
          simp only [nI_m1 (show q < 2 ^ 31 by omega), if_false]
          refine ⟨fun Q σ F hF => ?_, fun τ => ?_⟩
          · rw [if_pos (show (rdPair f n (nI (p + 2)) 0 59).1 = -1 from g1)]
            exact hF _
          · rw [if_neg (show ¬ bI true = 0 by decide)]; exact g2
        · left
          rw [d1, d2]
          simp only [if_true]
          refine ⟨60 * h, p + 2, by omega, e3, fun Q σ F hQ => ?_, fun τ => ?_⟩
          · have ez : nI h * 60 + 0 = nI (60 * h) := by rw [nu_l60, pk_mul, Int32.add_zero]; congr 1; omega
            rw [ez]; exact hQ
          · have ez : 3600 * nI h = nI (60 * (60 * h)) := by rw [nu_l3600, pk_mul]; congr 1; omega
            rw [if_pos (show bI false = 0 from rfl), ez]
  · right
    have e2 : (mTwo X n p false 0 23).2.2 = true := e2
    refine ⟨fun Q σ F hF => ?_, fun τ => ?_⟩
    · dsimp only
      rw [if_pos (show (rdPair f n (nI p) 0 23).1 = -1 from e1)]
      exact hF _
    · dsimp only
      rw [e2, rd_two_t]
      split
      · rfl
      · split <;> rfl
theorem rd_zone {f X : Nat → Int32} {n p : Nat} {kind : Int32} (hb : bt_ok f n X) (hp : p < n) :
    (∃ (V W : Int32) (p' : Nat), rd_Z V W ∧ p' ≤ n ∧ rdZone f n kind (nI p) 0 = (true, nI p', V) ∧ mZone X n p false kind = (W, p', false)) ∨
    ((rdZone f n kind (nI p) 0).1 = false ∧ (mZone X n p false kind).2.2 = true) := by
  have hn := hb.1
  obtain ⟨ex, j, hj, ej⟩ := rd_in hb hp
  unfold rdZone
  by_cases h90 : X p = 90
  · left
    unfold mZone
    rw [ex, if_neg (nI_ge hp (by omega)), h90, if_pos rfl, if_pos rfl]
    exact ⟨0, 0, p + 1, ⟨0, by omega, Or.inl ⟨rfl, rfl⟩⟩, by omega, by rw [nI_1], rfl⟩
  · rw [ex, if_neg h90]
    by_cases h43 : X p = 43
    · rw [if_pos h43, nI_1]
      unfold mZone
      rw [if_neg (nI_ge hp (by omega)), if_neg h90, if_pos (show bI false = 0 from rfl), if_pos h43]
      rcases rd_zpair (kind := kind) (p := p + 1) hb (by omega) with ⟨zz, p', z1, z2, z3, z4⟩ | ⟨z3, z4⟩
      · left
        exact ⟨nI zz, nI (60 * zz), p', ⟨zz, z1, Or.inl ⟨rfl, rfl⟩⟩, z2, z3 (fun r => r = (true, nI p', nI zz)) (fun x => x) (fun x => (false, x, 0)) rfl, z4 (fun x => x)⟩
      · right
        exact ⟨z3 (fun r => r.1 = false) (fun x => x) (fun x => (false, x, 0)) (fun _ => rfl), z4 (fun x => x)⟩
    · rw [if_neg h43]
      by_cases h45 : X p = 45
      · rw [if_pos h45, nI_1]
        unfold mZone
        rw [if_neg (nI_ge hp (by omega)), if_neg h90, if_pos (show bI false = 0 from rfl), if_neg h43, if_pos h45]
        rcases rd_zpair (kind := kind) (p := p + 1) hb (by omega) with ⟨zz, p', z1, z2, z3, z4⟩ | ⟨z3, z4⟩
        · left
          exact ⟨-(nI zz), 0 - nI (60 * zz), p', ⟨zz, z1, Or.inr ⟨rfl, rfl⟩⟩, z2, z3 (fun r => r = (true, nI p', -(nI zz))) (fun x => -x) (fun x => (false, x, 0)) rfl, z4 (fun x => 0 - x)⟩
        · right
          exact ⟨z3 (fun r => r.1 = false) (fun x => -x) (fun x => (false, x, 0)) (fun _ => rfl), z4 (fun x => 0 - x)⟩
      · right
        rw [if_neg h45]
        exact ⟨rfl, rd_zone_t hp hn h90 h43 h45⟩
