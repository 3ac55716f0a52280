section KO
variable {tt : Bool} {lf : Int32} {ft : Nat → Int32} {nt : Nat} {fw : Nat → Int32} {nw : Nat} {ta ah y mo d hh mi ss : Int32} {k : Nat} {g : Nat → Int32} {z : Nat} {WS : Nat → Int64} {LN PT OD : Nat → Int32} {X : Nat → Int32} {mz : Nat} {fl : Int32} {it : Bool} {al : Int64} {PD : Nat → Int32} {dg : Nat} {U : Nat → Int32} {wr kz : Nat} {KA : Nat → Int64} {KD KP : Nat → Int32} {ma : Nat} {wg : Bool} {G : Nat → Int64}
theorem kb_bt {f X : Nat → Int32} {n m : Nat} (h : kb_text f n X m) : bt_ok f n X ∧ (n ≤ 240 ∨ ∀ i, i < 14 → mDig X n i = true) := by
  obtain ⟨rfl, h2, h3, h4⟩ := h
  refine ⟨⟨h2, h3⟩, ?_⟩
  by_cases c : m ≤ 240
  · exact Or.inl c
  · rcases h4 with h4 | h4
    · exact absurd h4 c
    · right
      intro i hi
      obtain ⟨q, hq, e⟩ := h4 i hi
      unfold mDig
      rw [if_neg (nI_ge (by omega) (by omega)), e, if_neg (show ¬ nI (48 + q) < 48 from nI_nlt (b := 48) (by omega) (by omega)), if_neg (show ¬ 57 < nI (48 + q) from nI_nlt (a := 57) (by omega) (by omega))]
theorem kb_0 {f X : Nat → Int32} : kb_text f 0 X 0 := ⟨rfl, by omega, fun i hi => absurd hi (by omega), Or.inl (by omega)⟩
theorem ko_kt {y mo d hh mi ss : Int32} {k : Nat} {g : Nat → Int32} {al : Int64} {PD : Nat → Int32} {dg : Nat} (h : kt_time y mo d hh mi ss k g al PD dg) :
    ((yrL (mDay al) 10100 (mDay al / 366)).isSome = true) ∧ ((moL (yrF (mDay al)) 13 (mDay al - mTo (yrF (mDay al))) 1).isSome = true) ∧ (moF al ≤ 12) ∧ dg ≤ 240 := by
  obtain ⟨Y, M, D, h, m, s, rfl, rfl, rfl, rfl, rfl, rfl, hY, h1, h2, hD, hD2, hh, hm, hs, rfl, rfl, hk6, hg, hP⟩ := h
  obtain ⟨e1, e2, e3, e4, e5, e6⟩ := nu_u hY h1 h2 hD hD2 hh hm hs
  rw [e1, e2, e3, e4, e5]
  exact ⟨rfl, rfl, nI_le (b := 12) h2 (by omega), by omega⟩
theorem ko_rd {ft X : Nat → Int32} {nt mz : Nat} (h : kb_text ft nt X mz) {kind : Int32} (hk : kind = 0 ∨ kind = 1) {mo d hh : Int32} {g PD : Nat → Int32} {k : Nat} {al : Int64} : rd_ok (rdFault ft nt kind mo d hh g k) (mAll X mz PD kind al) := by
  obtain ⟨hb, h14⟩ := kb_bt h
  obtain ⟨rfl, -⟩ := h
  rcases hk with rfl | rfl
  · exact rd_all0 hb
  · exact rd_all1 hb h14
theorem ko_has {z : Nat} {i : Int32} : mKept z i = kHas z i := rfl
theorem ko_ix {z : Nat} {i : Int32} (h : ¬ bI (kHas z i) = 0) (hz : z ≤ 40) : ∃ p : Nat, p < z ∧ i = nI p := by
  unfold kHas at h
  rcases pk_ix i (n := z) (by omega) with c | c | ⟨j, hj, e⟩
  · rw [if_pos c] at h; exact absurd rfl h
  · by_cases c0 : i < 0
    · rw [if_pos c0] at h; exact absurd rfl h
    · rw [if_neg c0, if_pos c] at h; exact absurd rfl h
  · exact ⟨j, hj, e⟩
theorem ko_nz {one : Nat} {P : Prop} (c : Nat) (hc : ¬ c = 0) : wk one c = 0 → P := fun q => absurd (wk_0 q) hc
theorem kinv_r {kind : Int32} (hI : kinv tt lf ft nt fw nw y mo d hh mi ss k g z WS LN PT OD X mz fl it al PD dg U wr kz KA KD KP) : (mAll X mz PD kind al).1 = 0 → (yrL (mDay (mAll X mz PD kind al).2.1) 10100 (mDay (mAll X mz PD kind al).2.1 / 366)).isSome = true ∧ (moL (yrF (mDay (mAll X mz PD kind al).2.1)) 13 (mDay (mAll X mz PD kind al).2.1 - mTo (yrF (mDay (mAll X mz PD kind al).2.1))) 1).isSome = true ∧ moF (mAll X mz PD kind al).2.1 ≤ 12 ∧ (mAll X mz PD kind al).2.2.2.2.2 ≤ 240 := by
  have key : ∀ kd : Int32, (kd = 0 ∨ kd = 1) → (mAll X mz PD kd al).1 = 0 → (yrL (mDay (mAll X mz PD kd al).2.1) 10100 (mDay (mAll X mz PD kd al).2.1 / 366)).isSome = true ∧ (moL (yrF (mDay (mAll X mz PD kd al).2.1)) 13 (mDay (mAll X mz PD kd al).2.1 - mTo (yrF (mDay (mAll X mz PD kd al).2.1))) 1).isSome = true ∧ moF (mAll X mz PD kd al).2.1 ≤ 12 ∧ (mAll X mz PD kd al).2.2.2.2.2 ≤ 240 := by
    intro kd hk h0
    have r := ko_rd hI.1 hk (mo := mo) (d := d) (hh := hh) (g := g) (k := k) (PD := PD) (al := al)
    exact ko_kt (r.2 h0)
  by_cases c : kind = 0
  · exact key kind (Or.inl c)
  · rw [mAll_k c]; exact key 1 (Or.inr rfl)
theorem kinv_u (hI : kinv tt lf ft nt fw nw y mo d hh mi ss k g z WS LN PT OD X mz fl it al PD dg U wr kz KA KD KP) : it = true → ((yrL (mDay al) 10100 (mDay al / 366)).isSome = true) ∧ ((moL (yrF (mDay al)) 13 (mDay al - mTo (yrF (mDay al))) 1).isSome = true) ∧ (moF al ≤ 12) := by
  obtain ⟨-, -, -, h4, h5, -⟩ := hI
  intro h
  obtain ⟨a, b, c, -⟩ := ko_kt (h5 (h4.symm.trans h))
  exact ⟨a, b, c⟩

theorem ko_feed {p1 : Int32} {p2 : Int32} {p3 : Int32} {p4 : Int32} (hI : kinv tt lf ft nt fw nw y mo d hh mi ss k g z WS LN PT OD X mz fl it al PD dg U wr kz KA KD KP) : (mFeed X mz p1 p2 p3 p4).2.1 = wk 1 (fdR ft nt p1 p2 p3 p4).1 ∧ (wk 1 (fdR ft nt p1 p2 p3 p4).1 = 0 → lg_cmp (wo (fdR ft nt p1 p2 p3 p4).1 G (fdR ft nt p1 p2 p3 p4).2.1.toInt64 0) (mFeed X mz p1 p2 p3 p4).1.toInt64 = 0) ∧ kinv tt lf (fdR ft nt p1 p2 p3 p4).2.2.1 (fdR ft nt p1 p2 p3 p4).2.2.2 fw nw y mo d hh mi ss k g z WS LN PT OD (mFeed X mz p1 p2 p3 p4).2.2.1 (mFeed X mz p1 p2 p3 p4).2.2.2 fl it al PD dg U wr kz KA KD KP := by
  obtain ⟨h1, h2, h3, h4, h5, h6, h7, h8, h9⟩ := hI
  have hb := h1
  obtain ⟨rfl, i2, i3, i4⟩ := h1
  unfold mFeed fdR
  by_cases c : nI (mz + 16) ≤ 240
  · rw [if_pos c, if_pos c]
    have hc : mz + 16 ≤ 240 := by
      apply Decidable.byContradiction
      intro q
      exact nI_ge (a := 240) (b := mz + 16) (by omega) (by omega) c
    obtain ⟨a1, a2⟩ := by_four (v := p1) (show wt ft mz X mz from ⟨rfl, i3⟩) (by omega)
    obtain ⟨b1, b2⟩ := by_four (v := p2) a1 (by omega)
    obtain ⟨c1, c2⟩ := by_four (v := p3) b1 (by omega)
    obtain ⟨⟨d1, d3⟩, d2⟩ := by_four (v := p4) c1 (by omega)
    dsimp only
    refine ⟨rfl, kv_of (fun _ => ?_), ⟨d1, ?_, d3, Or.inl ?_⟩, h2, h3, h4, h5, h6, h7, h8, h9⟩
    · rw [d1]
    · omega
    · omega
  · rw [if_neg c, if_neg c]
    exact ⟨rfl, ko_nz 1 (by decide), hb, h2, h3, h4, h5, h6, h7, h8, h9⟩

theorem ko_end {p1 : Int32} (hI : kinv tt lf ft nt fw nw y mo d hh mi ss k g z WS LN PT OD X mz fl it al PD dg U wr kz KA KD KP) : (mEnd mz p1).2.1 = wk 2 (enR nt p1).1 ∧ (wk 2 (enR nt p1).1 = 0 → lg_cmp (wo (enR nt p1).1 G (enR nt p1).2.1.toInt64 0) (mEnd mz p1).1.toInt64 = 0) ∧ kinv tt lf ft (enR nt p1).2.2 fw nw y mo d hh mi ss k g z WS LN PT OD X (mEnd mz p1).2.2 fl it al PD dg U wr kz KA KD KP := by
  obtain ⟨h1, h2, h3, h4, h5, h6, h7, h8, h9⟩ := hI
  have hb := h1
  obtain ⟨rfl, i2, i3, i4⟩ := h1
  unfold mEnd enR
  by_cases c : p1 < 0
  · rw [if_pos c, if_pos c]
    exact ⟨rfl, ko_nz 2 (by decide), hb, h2, h3, h4, h5, h6, h7, h8, h9⟩
  · rw [if_neg c, if_neg c]
    by_cases c2 : p1 ≤ 16
    · rw [if_pos c2, if_pos c2]
      by_cases c3 : 16 ≤ nI mz
      · rw [if_pos c3, if_pos c3]
        obtain ⟨j, hj, rfl⟩ := nI_of2 (M := 16) (n := 16) (by decide) c c2
        have hm : 16 ≤ mz := by
          apply Decidable.byContradiction
          intro q
          exact nI_ge (a := mz) (b := 16) (by omega) (by omega) c3
        refine ⟨rfl, kv_of (fun _ => rfl), ⟨rfl, ?_, fun i hi => i3 i ?_, ?_⟩, h2, h3, h4, h5, h6, h7, h8, h9⟩
        · dsimp only; rw [nI_clamp (by omega)]; omega
        · dsimp only at hi; rw [nI_clamp (by omega)] at hi; omega
        · dsimp only
          rw [nI_clamp (by omega)]
          rcases i4 with q | q
          · left; omega
          · exact Or.inr q
      · rw [if_neg c3, if_neg c3]
        exact ⟨rfl, ko_nz 1 (by decide), hb, h2, h3, h4, h5, h6, h7, h8, h9⟩
    · rw [if_neg c2, if_neg c2]
      exact ⟨rfl, ko_nz 2 (by decide), hb, h2, h3, h4, h5, h6, h7, h8, h9⟩

theorem ko_read {p1 : Int32} (hI : kinv tt lf ft nt fw nw y mo d hh mi ss k g z WS LN PT OD X mz fl it al PD dg U wr kz KA KD KP) : (mRead X mz PD p1 al U fl it wr ma wg dg).2.1 = wk 2 (reR tt lf p1 ft nt fw nw ta ah y mo d hh mi ss g k).1 ∧ (wk 2 (reR tt lf p1 ft nt fw nw ta ah y mo d hh mi ss g k).1 = 0 → lg_cmp (wo (reR tt lf p1 ft nt fw nw ta ah y mo d hh mi ss g k).1 G (reR tt lf p1 ft nt fw nw ta ah y mo d hh mi ss g k).2.1.toInt64 0) (mRead X mz PD p1 al U fl it wr ma wg dg).1.toInt64 = 0) ∧ kinv (reR tt lf p1 ft nt fw nw ta ah y mo d hh mi ss g k).2.2.1 (reR tt lf p1 ft nt fw nw ta ah y mo d hh mi ss g k).2.2.2.1 ft (reR tt lf p1 ft nt fw nw ta ah y mo d hh mi ss g k).2.2.2.2.1 (reR tt lf p1 ft nt fw nw ta ah y mo d hh mi ss g k).2.2.2.2.2.1 (reR tt lf p1 ft nt fw nw ta ah y mo d hh mi ss g k).2.2.2.2.2.2.1 (reR tt lf p1 ft nt fw nw ta ah y mo d hh mi ss g k).2.2.2.2.2.2.2.2.2.1 (reR tt lf p1 ft nt fw nw ta ah y mo d hh mi ss g k).2.2.2.2.2.2.2.2.2.2.1 (reR tt lf p1 ft nt fw nw ta ah y mo d hh mi ss g k).2.2.2.2.2.2.2.2.2.2.2.1 (reR tt lf p1 ft nt fw nw ta ah y mo d hh mi ss g k).2.2.2.2.2.2.2.2.2.2.2.2.1 (reR tt lf p1 ft nt fw nw ta ah y mo d hh mi ss g k).2.2.2.2.2.2.2.2.2.2.2.2.2.1 (reR tt lf p1 ft nt fw nw ta ah y mo d hh mi ss g k).2.2.2.2.2.2.2.2.2.2.2.2.2.2.1 (reR tt lf p1 ft nt fw nw ta ah y mo d hh mi ss g k).2.2.2.2.2.2.2.2.2.2.2.2.2.2.2.2 (reR tt lf p1 ft nt fw nw ta ah y mo d hh mi ss g k).2.2.2.2.2.2.2.2.2.2.2.2.2.2.2.1 z WS LN PT OD X (mRead X mz PD p1 al U fl it wr ma wg dg).2.2.1 (mRead X mz PD p1 al U fl it wr ma wg dg).2.2.2.1 (mRead X mz PD p1 al U fl it wr ma wg dg).2.2.2.2.1 (mRead X mz PD p1 al U fl it wr ma wg dg).2.2.2.2.2.1 (mRead X mz PD p1 al U fl it wr ma wg dg).2.2.2.2.2.2.2.2.2.2.1 (mRead X mz PD p1 al U fl it wr ma wg dg).2.2.2.2.2.2.1 (mRead X mz PD p1 al U fl it wr ma wg dg).2.2.2.2.2.2.2.2.2.2.2 (mRead X mz PD p1 al U fl it wr ma wg dg).2.2.2.2.2.2.2.1 kz KA KD KP := by
  obtain ⟨h1, h2, h3, h4, h5, h6, h7, h8, h9⟩ := hI
  have hcase : (¬ p1 = 0 ∧ ¬ p1 = 1 ∧ (p1 < 0 ∨ (¬ p1 < 0 ∧ ¬ p1 ≤ 1))) ∨ ((p1 = 0 ∨ p1 = 1) ∧ ¬ p1 < 0 ∧ p1 ≤ 1) := by
    by_cases c : p1 < 0
    · left
      refine ⟨fun q => ?_, fun q => ?_, Or.inl c⟩
      · rw [q] at c; exact absurd c (by decide)
      · rw [q] at c; exact absurd c (by decide)
    · by_cases c2 : p1 ≤ 1
      · right
        obtain ⟨j, hj, rfl⟩ := nI_of2 (M := 1) (n := 1) (by decide) c c2
        refine ⟨?_, c, c2⟩
        have : j = 0 ∨ j = 1 := by omega
        rcases this with rfl | rfl
        · exact Or.inl rfl
        · exact Or.inr rfl
      · left
        refine ⟨fun q => ?_, fun q => ?_, Or.inr ⟨c, c2⟩⟩
        · rw [q] at c2; exact absurd (by decide) c2
        · rw [q] at c2; exact absurd (by decide) c2
  rcases hcase with ⟨n0, n1, hr⟩ | ⟨hk, n0, n1⟩
  · have eC : reR tt lf p1 ft nt fw nw ta ah y mo d hh mi ss g k = (2, 0, tt, lf, nt, fw, nw, ta, ah, y, mo, d, hh, mi, ss, g, k) := by
      unfold reR; rw [if_neg n0, if_neg n1]
    have eR : mRead X mz PD p1 al U fl it wr ma wg dg = (0, 1, mz, fl, it, al, dg, wr, ma, wg, PD, U) := by
      unfold mRead
      rcases hr with q | ⟨q, q2⟩
      · rw [if_pos q]
      · rw [if_neg q, if_neg q2]
    rw [eC, eR]
    exact ⟨rfl, ko_nz 2 (by decide), h1, h2, h3, h4, h5, h6, h7, h8, h9⟩
  · have r := ko_rd h1 hk (mo := mo) (d := d) (hh := hh) (g := g) (k := k) (PD := PD) (al := al)
    have eC : reR tt lf p1 ft nt fw nw ta ah y mo d hh mi ss g k = (let v_33 := rdFault ft nt p1 mo d hh g k
      if v_33.1 = 0 then
        let v_90 := wrMom p1 v_33.2.2.2.1 v_33.2.2.2.2.1 v_33.2.2.2.2.2.1 v_33.2.2.2.2.2.2.1 v_33.2.2.2.2.2.2.2.1 v_33.2.2.2.2.2.2.2.2.1 v_33.2.2.2.2.2.2.2.2.2.1 v_33.2.2.2.2.2.2.2.2.2.2 fw 0
        (0, nI v_90.2, true, v_33.1, 0, v_90.1, v_90.2, v_33.2.1, v_33.2.2.1, v_33.2.2.2.1, v_33.2.2.2.2.1, v_33.2.2.2.2.2.1, v_33.2.2.2.2.2.2.1, v_33.2.2.2.2.2.2.2.1, v_33.2.2.2.2.2.2.2.2.1, v_33.2.2.2.2.2.2.2.2.2.1, v_33.2.2.2.2.2.2.2.2.2.2)
      else
        (2, 0, false, v_33.1, 0, fw, 0, v_33.2.1, v_33.2.2.1, v_33.2.2.2.1, v_33.2.2.2.2.1, v_33.2.2.2.2.2.1, v_33.2.2.2.2.2.2.1, v_33.2.2.2.2.2.2.2.1, v_33.2.2.2.2.2.2.2.2.1, v_33.2.2.2.2.2.2.2.2.2.1, v_33.2.2.2.2.2.2.2.2.2.2)) := by
      unfold reR
      rcases hk with rfl | rfl
      · rw [if_pos rfl]
      · rw [if_neg (show ¬ (1 : Int32) = 0 by decide), if_pos rfl]
    have eR : mRead X mz PD p1 al U fl it wr ma wg dg = (let v_30 := mAll X mz PD p1 al
      if v_30.1 = 0 then
        let v_87 := mWrite v_30.2.1 v_30.2.2.2.2.2 v_30.2.2.2.2.1 p1 U 0
        (nI v_87.2, 0, 0, v_30.1, true, v_30.2.1, v_30.2.2.2.2.2, v_87.2, v_30.2.2.1, v_30.2.2.2.1, v_30.2.2.2.2.1, v_87.1)
      else
        (nI 0, 1, 0, v_30.1, false, v_30.2.1, v_30.2.2.2.2.2, 0, v_30.2.2.1, v_30.2.2.2.1, v_30.2.2.2.2.1, U)) := by
      unfold mRead
      rw [if_neg n0, if_pos n1]
    have hdg := dg_all (X := X) (mz := mz) (PD := PD) (kind := p1) (al := al)
    have hkk := rdFault_k (f := ft) (n := nt) (kind := p1) (mo := mo) (d := d) (hh := hh) (g := g) (k := k) h1.2.1
    have hfb := fb_rd (f := ft) (n := nt) (kind := p1) (mo := mo) (d := d) (hh := hh) (g := g) (k := k) h9
    have hm : mz ≤ 242 := by have := h1.1; have := h1.2.1; omega
    rw [eC, eR]
    clear eC eR h1
    generalize rdFault ft nt p1 mo d hh g k = C at *
    generalize mAll X mz PD p1 al = R at *
    obtain ⟨C1, C2, C3, C4, C5, C6, C7, C8, C9, C10, C11⟩ := C
    obtain ⟨R1, R2, R3, R4, R5, R6⟩ := R
    obtain ⟨r1, r2⟩ := r
    dsimp only at r1 r2 hdg hkk hfb ⊢
    subst r1
    by_cases c : C1 = 0
    · rw [if_pos c, if_pos c]
      have ht := r2 c
      have hw := wr_ok (f := fw) (U := U) hk ht
      refine ⟨rfl, kv_of (fun _ => ?_), kb_0, hw, rfl, rfl, fun _ => ht, h6, hkk, by dsimp only; omega, hfb⟩
      dsimp only
      rw [hw.1]
    · rw [if_neg c, if_neg c]
      exact ⟨rfl, ko_nz 2 (by decide), kb_0, kb_0, rfl, rfl, fun q => absurd (show false = true from q) (by decide), h6, hkk, by dsimp only; omega, hfb⟩

theorem ko_fault (hI : kinv tt lf ft nt fw nw y mo d hh mi ss k g z WS LN PT OD X mz fl it al PD dg U wr kz KA KD KP) : lf = fl := by
  exact hI.2.2.1.symm

theorem ko_out {p1 : Int32} (hI : kinv tt lf ft nt fw nw y mo d hh mi ss k g z WS LN PT OD X mz fl it al PD dg U wr kz KA KD KP) : (mOut U wr p1).2 = wk 3 (otR fw nw p1).1 ∧ (wk 3 (otR fw nw p1).1 = 0 → lg_cmp (wo (otR fw nw p1).1 G (otR fw nw p1).2.toInt64 0) (mOut U wr p1).1.toInt64 = 0) ∧ kinv tt lf ft nt fw nw y mo d hh mi ss k g z WS LN PT OD X mz fl it al PD dg U wr kz KA KD KP := by
  have hI' := hI
  obtain ⟨h1, ⟨rfl, i2, i3, i4⟩, -⟩ := hI'
  unfold mOut otR
  by_cases c : p1 < 0
  · rw [if_pos c, if_pos c]
    exact ⟨rfl, ko_nz 3 (by decide), hI⟩
  · rw [if_neg c, if_neg c]
    by_cases c2 : p1 < nI wr
    · rw [if_pos c2, if_pos c2]
      refine ⟨rfl, kv_of (fun _ => ?_), hI⟩
      obtain ⟨j, hj, rfl⟩ := nI_of c
      have hjw : j < wr := kb_ltt c2 hj
      dsimp only
      rw [nI_clamp hj, (rd_in (f := fw) (X := U) ⟨i2, i3⟩ hjw).1]
    · rw [if_neg c2, if_neg c2]
      exact ⟨rfl, ko_nz 3 (by decide), hI⟩

theorem ko_again  (hI : kinv tt lf ft nt fw nw y mo d hh mi ss k g z WS LN PT OD X mz fl it al PD dg U wr kz KA KD KP) : (mAgain it U wr X mz).2.1 = wk 1 (agR tt fw nw ft nt).1 ∧ (wk 1 (agR tt fw nw ft nt).1 = 0 → lg_cmp (wo (agR tt fw nw ft nt).1 G (agR tt fw nw ft nt).2.1.toInt64 0) (mAgain it U wr X mz).1.toInt64 = 0) ∧ kinv tt lf (agR tt fw nw ft nt).2.2.1 (agR tt fw nw ft nt).2.2.2 fw nw y mo d hh mi ss k g z WS LN PT OD (mAgain it U wr X mz).2.2.1 (mAgain it U wr X mz).2.2.2 fl it al PD dg U wr kz KA KD KP := by
  have hI' := hI
  obtain ⟨h1, h2, h3, rfl, h5, h6, h7, h8, h9⟩ := hI'
  obtain ⟨rfl, i2, i3, i4⟩ := h2
  unfold mAgain agR
  cases it
  · rw [if_pos (show bI false = 0 from rfl), if_pos (show bI false = 0 from rfl)]
    exact ⟨rfl, ko_nz 1 (by decide), hI⟩
  · rw [if_neg (show ¬ bI true = 0 by decide), if_neg (show ¬ bI true = 0 by decide)]
    obtain ⟨⟨b0, b1⟩, b2, b3, b4⟩ := by_copy (fw := fw) (U := U) (nw := wr) i2 i3 wr 0 ft X (by omega) ⟨rfl, fun i hi => absurd hi (by omega)⟩
    refine ⟨rfl, kv_of (fun _ => ?_), ⟨b2.symm, ?_, b1, ?_⟩, ⟨rfl, i2, i3, i4⟩, h3, rfl, h5, h6, h7, h8, h9⟩
    · dsimp only; rw [b2]
    · dsimp only; rw [b2]; exact i2
    · dsimp only
      rw [b2]
      by_cases q : wr ≤ 240
      · exact Or.inl q
      · rcases i4 with w | w
        · exact Or.inl w
        · right
          intro i hi
          obtain ⟨x, hx, ex⟩ := w i hi
          exact ⟨x, hx, by rw [b3 i (by omega) (by omega)]; exact ex⟩

theorem ko_seconds  (hI : kinv tt lf ft nt fw nw y mo d hh mi ss k g z WS LN PT OD X mz fl it al PD dg U wr kz KA KD KP) : (mSecs it al).2 = wk 1 (scR tt y mo d hh mi ss).1 ∧ (wk 1 (scR tt y mo d hh mi ss).1 = 0 → lg_cmp (wo (scR tt y mo d hh mi ss).1 G (scR tt y mo d hh mi ss).2 0) (mSecs it al).1 = 0) ∧ kinv tt lf ft nt fw nw y mo d hh mi ss k g z WS LN PT OD X mz fl it al PD dg U wr kz KA KD KP := by
  have hI' := hI
  obtain ⟨h1, h2, h3, rfl, h5, h6, h7, h8, h9⟩ := hI'
  unfold mSecs scR
  cases it
  · rw [if_pos (show bI false = 0 from rfl), if_pos (show bI false = 0 from rfl)]
    exact ⟨rfl, ko_nz 1 (by decide), hI⟩
  · rw [if_neg (show ¬ bI true = 0 by decide), if_neg (show ¬ bI true = 0 by decide)]
    refine ⟨rfl, kv_of (fun _ => ?_), hI⟩
    obtain ⟨Y, M, D, h, m, s, rfl, rfl, rfl, rfl, rfl, rfl, hY, q1, q2, hD, hD2, hh, hm, hs, rfl, -⟩ := h5 rfl
    have hd := nu_days_le Y M
    exact nu_wSecs (by omega) q1 q2 hD (by omega) (by omega) (by omega) (by omega)

theorem ko_unit {p1 : Int32} (hI : kinv tt lf ft nt fw nw y mo d hh mi ss k g z WS LN PT OD X mz fl it al PD dg U wr kz KA KD KP) : (mUn it al dg p1).2 = wk 1 (unR tt y mo d hh mi ss k p1).1 ∧ (wk 1 (unR tt y mo d hh mi ss k p1).1 = 0 → lg_cmp (wo (unR tt y mo d hh mi ss k p1).1 G (unR tt y mo d hh mi ss k p1).2.toInt64 0) (mUn it al dg p1).1.toInt64 = 0) ∧ kinv tt lf ft nt fw nw y mo d hh mi ss k g z WS LN PT OD X mz fl it al PD dg U wr kz KA KD KP := by
  have hI' := hI
  obtain ⟨h1, h2, h3, rfl, h5, h6, h7, h8, h9⟩ := hI'
  unfold mUn unR
  cases it
  · rw [if_pos (show bI false = 0 from rfl), if_pos (show bI false = 0 from rfl)]
    exact ⟨rfl, ko_nz 1 (by decide), hI⟩
  · rw [if_neg (show ¬ bI true = 0 by decide), if_neg (show ¬ bI true = 0 by decide)]
    have bad : (p1 < 0 ∨ (¬ p1 < 0 ∧ ¬ p1 ≤ 7)) → ¬ p1 = 0 ∧ ¬ p1 = 1 ∧ ¬ p1 = 2 ∧ ¬ p1 = 3 ∧ ¬ p1 = 4 ∧ ¬ p1 = 5 ∧ ¬ p1 = 6 ∧ ¬ p1 = 7 := by
      intro h
      refine ⟨?_, ?_, ?_, ?_, ?_, ?_, ?_, ?_⟩ <;> (intro q; subst q; revert h; decide)
    by_cases c : p1 < 0
    · obtain ⟨n0, n1, n2, n3, n4, n5, n6, n7⟩ := bad (Or.inl c)
      rw [if_pos c, if_neg n0, if_neg n1, if_neg n2, if_neg n3, if_neg n4, if_neg n5, if_neg n6, if_neg n7]
      exact ⟨rfl, ko_nz 3 (by decide), hI⟩
    · rw [if_neg c]
      by_cases c2 : p1 ≤ 7
      · rw [if_pos c2]
        obtain ⟨j, hj, rfl⟩ := nI_of2 (M := 7) (n := 7) (by decide) c c2
        obtain ⟨Y, M, D, h, m, s, rfl, rfl, rfl, rfl, rfl, rfl, hY, q1, q2, hD, hD2, hh, hm, hs, rfl, rfl, -⟩ := h5 rfl
        obtain ⟨u0, u1, u2, u3, u4, u5, u6, u7⟩ := nu_unit (dg := dg) hY q1 q2 hD hD2 hh hm hs
        have hj' : j = 0 ∨ j = 1 ∨ j = 2 ∨ j = 3 ∨ j = 4 ∨ j = 5 ∨ j = 6 ∨ j = 7 := by omega
        rcases hj' with rfl | rfl | rfl | rfl | rfl | rfl | rfl | rfl
        · exact ⟨rfl, kv_of (fun _ => congrArg Int32.toInt64 u0.symm), hI⟩
        · exact ⟨rfl, kv_of (fun _ => congrArg Int32.toInt64 u1.symm), hI⟩
        · exact ⟨rfl, kv_of (fun _ => congrArg Int32.toInt64 u2.symm), hI⟩
        · exact ⟨rfl, kv_of (fun _ => congrArg Int32.toInt64 u3.symm), hI⟩
        · exact ⟨rfl, kv_of (fun _ => congrArg Int32.toInt64 u4.symm), hI⟩
        · exact ⟨rfl, kv_of (fun _ => congrArg Int32.toInt64 u5.symm), hI⟩
        · exact ⟨rfl, kv_of (fun _ => congrArg Int32.toInt64 u6.symm), hI⟩
        · exact ⟨rfl, kv_of (fun _ => congrArg Int32.toInt64 u7.symm), hI⟩
      · obtain ⟨n0, n1, n2, n3, n4, n5, n6, n7⟩ := bad (Or.inr ⟨c, c2⟩)
        rw [if_neg c2, if_neg n0, if_neg n1, if_neg n2, if_neg n3, if_neg n4, if_neg n5, if_neg n6, if_neg n7]
        exact ⟨rfl, ko_nz 3 (by decide), hI⟩

theorem ko_keep  (hI : kinv tt lf ft nt fw nw y mo d hh mi ss k g z WS LN PT OD X mz fl it al PD dg U wr kz KA KD KP) : (mKeep it kz al dg PD KA KD KP).2.1 = wk 1 (kpR tt z y mo d hh mi ss g k WS LN PT OD).1 ∧ (wk 1 (kpR tt z y mo d hh mi ss g k WS LN PT OD).1 = 0 → lg_cmp (wo (kpR tt z y mo d hh mi ss g k WS LN PT OD).1 G (kpR tt z y mo d hh mi ss g k WS LN PT OD).2.1.toInt64 0) (mKeep it kz al dg PD KA KD KP).1.toInt64 = 0) ∧ kinv tt lf ft nt fw nw y mo d hh mi ss k g (kpR tt z y mo d hh mi ss g k WS LN PT OD).2.2.1 (kpR tt z y mo d hh mi ss g k WS LN PT OD).2.2.2.1 (kpR tt z y mo d hh mi ss g k WS LN PT OD).2.2.2.2.1 (kpR tt z y mo d hh mi ss g k WS LN PT OD).2.2.2.2.2.1 (kpR tt z y mo d hh mi ss g k WS LN PT OD).2.2.2.2.2.2 X mz fl it al PD dg U wr (mKeep it kz al dg PD KA KD KP).2.2.1 (mKeep it kz al dg PD KA KD KP).2.2.2.1 (mKeep it kz al dg PD KA KD KP).2.2.2.2.1 (mKeep it kz al dg PD KA KD KP).2.2.2.2.2 := by
  have hI' := hI
  obtain ⟨h1, h2, h3, rfl, h5, h6, h7, h8, h9⟩ := hI'
  have hz : kz = z := h6.1
  have hz2 : z ≤ 40 := h6.2.1
  unfold mKeep kpR
  cases it
  · rw [if_pos (show bI false = 0 from rfl), if_pos (show bI false = 0 from rfl)]
    exact ⟨rfl, ko_nz 1 (by decide), hI⟩
  · rw [if_neg (show ¬ bI true = 0 by decide), if_neg (show ¬ bI true = 0 by decide)]
    by_cases c : z < 40
    · rw [if_pos (show nI z < 40 from nI_lt (b := 40) c (by omega)), if_neg (show ¬ nI kz = 40 from fun q => by have := (nI_eq (a := kz) (b := 40) (by omega) (by omega)).mp q; omega)]
      obtain ⟨Y, M, D, h, m, s, rfl, rfl, rfl, rfl, rfl, rfl, hY, q1, q2, hD, hD2, hh, hm, hs, rfl, rfl, hk6, hg, hP⟩ := h5 rfl
      have hd := nu_days_le Y M
      have es := nu_wSecs (Y := Y) (M := M) (D := D) (h := h) (m := m) (s := s) (by omega) q1 q2 hD (by omega) (by omega) (by omega) (by omega)
      rw [es]
      refine ⟨rfl, kv_of (fun _ => ?_), h1, h2, h3, rfl, h5, kk_add h6 c hk6 hP, h7, h8, h9⟩
      dsimp only
      rw [hz]
    · rw [if_neg (show ¬ nI z < 40 from nI_nlt (b := 40) (by omega) (by omega)), if_pos (show nI kz = 40 from by rw [show kz = 40 by omega]; rfl)]
      exact ⟨rfl, ko_nz 4 (by decide), hI⟩

theorem ko_order {p1 : Int32} (hI : kinv tt lf ft nt fw nw y mo d hh mi ss k g z WS LN PT OD X mz fl it al PD dg U wr kz KA KD KP) : (mOrd kz KA KD KP p1).2 = wk 3 (odR z OD p1).1 ∧ (wk 3 (odR z OD p1).1 = 0 → lg_cmp (wo (odR z OD p1).1 G (odR z OD p1).2.toInt64 0) (mOrd kz KA KD KP p1).1.toInt64 = 0) ∧ kinv tt lf ft nt fw nw y mo d hh mi ss k g z WS LN PT OD X mz fl it al PD dg U wr kz KA KD KP := by
  have hI' := hI
  obtain ⟨h1, h2, h3, rfl, h5, h6, h7, h8, h9⟩ := hI'
  have hK := h6
  obtain ⟨rfl, g2, g3, g4, g5, g6⟩ := h6
  unfold mOrd odR
  rw [ko_has]
  by_cases c : bI (kHas kz p1) = 0
  · rw [if_pos c, if_pos c]
    exact ⟨rfl, ko_nz 3 (by decide), hI⟩
  · rw [if_neg c, if_neg c]
    refine ⟨rfl, kv_of (fun _ => ?_), hI⟩
    obtain ⟨p, hp, rfl⟩ := ko_ix c g2
    obtain ⟨a, ea, ha, -⟩ := g4 p hp
    dsimp only
    rw [nI_clamp (by omega), ea, kk_ord hK hp ea ha kz 0 (by omega) (by omega)]

theorem ko_between {p1 : Int32} {p2 : Int32} (hI : kinv tt lf ft nt fw nw y mo d hh mi ss k g z WS LN PT OD X mz fl it al PD dg U wr kz KA KD KP) : (mBtw kz KA p1 p2).2 = wk 3 (btR z WS p1 p2).1 ∧ (wk 3 (btR z WS p1 p2).1 = 0 → lg_cmp (wo (btR z WS p1 p2).1 G (btR z WS p1 p2).2 0) (mBtw kz KA p1 p2).1 = 0) ∧ kinv tt lf ft nt fw nw y mo d hh mi ss k g z WS LN PT OD X mz fl it al PD dg U wr kz KA KD KP := by
  have hI' := hI
  obtain ⟨h1, h2, h3, rfl, h5, h6, h7, h8, h9⟩ := hI'
  obtain ⟨rfl, g2, g3, g4, g5, g6⟩ := h6
  unfold mBtw btR
  rw [ko_has, ko_has]
  by_cases c : bI (kHas kz p1) = 0
  · rw [if_pos c, if_pos c]
    exact ⟨rfl, ko_nz 3 (by decide), hI⟩
  · rw [if_neg c, if_neg c]
    by_cases c2 : bI (kHas kz p2) = 0
    · rw [if_pos c2, if_pos c2]
      exact ⟨rfl, ko_nz 3 (by decide), hI⟩
    · rw [if_neg c2, if_neg c2]
      refine ⟨rfl, kv_of (fun _ => ?_), hI⟩
      obtain ⟨p, hp, rfl⟩ := ko_ix c g2
      obtain ⟨p', hp', rfl⟩ := ko_ix c2 g2
      dsimp only
      rw [nI_clamp (by omega), nI_clamp (by omega), (g3 p hp).1, (g3 p' hp').1]

theorem ko_count {p1 : Int32} (hI : kinv tt lf ft nt fw nw y mo d hh mi ss k g z WS LN PT OD X mz fl it al PD dg U wr kz KA KD KP) : cntR nt nw z p1 = mCnt mz wr kz p1 := by
  obtain ⟨⟨rfl, -⟩, ⟨rfl, -⟩, -, -, -, ⟨rfl, -⟩, -⟩ := hI
  rfl

end KO
