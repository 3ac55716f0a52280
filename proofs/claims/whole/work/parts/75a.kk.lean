-- KEPT TIMES: one more
section KK
variable {z : Nat} {WS : Nat → Int64} {LN PT OD : Nat → Int32} {kz : Nat} {KA : Nat → Int64} {KD KP : Nat → Int32}
theorem kk_len (h : kk_kept z WS LN PT OD kz KA KD KP) {j : Nat} (hj : j < z) : (KD j).toNatClampNeg ≤ 240 ∧ KD j = nI (KD j).toNatClampNeg := by
  obtain ⟨-, -, h3, -⟩ := h
  obtain ⟨-, e2, n, e3, e4, -⟩ := h3 j hj
  rw [e2, e3, nI_clamp (by omega)]
  exact ⟨e4, rfl⟩
theorem kk_bef (h : kk_kept z WS LN PT OD kz KA KD KP) {a b : Nat} (ha : a < z) (hb : b < z) :
    mBef KA KP a b (KD a).toNatClampNeg (KD b).toNatClampNeg = true ↔ kl_lt KA (fun a i => KP (256 * a + i)) (fun a => (KD a).toNatClampNeg) a b :=
  kl_mBef (l := fun a => (KD a).toNatClampNeg) (kk_len h ha).1 (kk_len h hb).1 (by have := h.2.1; omega) (by have := h.2.1; omega)
/-- the reference's number of a place is the class's -/
theorem kk_ord (h : kk_kept z WS LN PT OD kz KA KD KP) {p a : Nat} (hp : p < z) (ha : OD p = nI a) (haz : a < z) : ∀ (N i : Nat), i + N = z → i ≤ a → moLp KA KD KP kz (nI p) N i = nI a := by
  obtain ⟨rfl, h2, h3, h4, h5, h6⟩ := h
  have hr : cntL KA KD KP kz a kz 0 (nI 0) = nI p := by
    obtain ⟨a', e1, e2, e3⟩ := h4 p hp
    rw [ha, nI_eq (by omega) (by omega)] at e1
    rw [e1]; exact e3
  intro N
  induction N with
  | zero => intro i hi hia; omega
  | succ N ih =>
    intro i hi hia
    have e : moLp KA KD KP kz (nI p) (N + 1) i = if kz ≤ i then -1 else if cntL KA KD KP kz i kz 0 (nI 0) = nI p then nI i else moLp KA KD KP kz (nI p) N (i + 1) := rfl
    rw [e, if_neg (by omega)]
    by_cases c : i = a
    · subst c; rw [if_pos hr]
    · rw [if_neg, ih (i + 1) (by omega) (by omega)]
      intro q
      obtain ⟨t, ht, et⟩ := h5 i (by omega)
      obtain ⟨a', e1, e2, e3⟩ := h4 t ht
      rw [et, nI_eq (by omega) (by omega)] at e1
      subst e1
      rw [e3, nI_eq (by omega) (by omega)] at q
      subst q
      rw [ha, nI_eq (by omega) (by omega)] at et
      exact c et.symm
theorem kk_add {g PD : Nat → Int32} {k : Nat} {al : Int64} (h : kk_kept z WS LN PT OD kz KA KD KP) (hz : z < 40) (hk : k ≤ 226) (hg : ∀ i, i < k → PD i = g i) :
    kk_kept (z + 1) (vp_updL WS z al) (upd LN z (nI k)) (va_cpy g PT 0 (z * 242) k) (insL (vp_updL WS z al) (upd LN z (nI k)) (va_cpy g PT 0 (z * 242) k) z k z OD) (kz + 1) (vp_updL KA kz al) (upd KD kz (nI k)) (mkL PD k kz k 0 KP) := by
  have hK := h
  obtain ⟨rfl, h2, h3, h4, h5, h6⟩ := h
  obtain ⟨mk1, mk2⟩ := kl_mkL (PD := PD) (dg := k) (kz := kz) k 0 KP (by omega)
  generalize hKP : mkL PD k kz k 0 KP = KP' at *
  generalize hPT : va_cpy g PT 0 (kz * 242) k = PT' at *
  generalize hWS : vp_updL WS kz al = WS' at *
  generalize hKA : vp_updL KA kz al = KA' at *
  generalize hLN : upd LN kz (nI k) = LN' at *
  generalize hKD : upd KD kz (nI k) = KD' at *
  have kd0 : ∀ j, j < kz → KD' j = KD j := fun j hj => by rw [← hKD]; exact pk_un (by omega)
  have kdz : KD' kz = nI k := by rw [← hKD]; exact pk_us
  have ka0 : ∀ j, j < kz → KA' j = KA j := fun j hj => by rw [← hKA]; exact pk_uLn (by omega)
  have ln0 : ∀ j, j < kz → LN' j = LN j := fun j hj => by rw [← hLN]; exact pk_un (by omega)
  have lnz : LN' kz = nI k := by rw [← hLN]; exact pk_us
  have ws0 : ∀ j, j < kz → WS' j = WS j := fun j hj => by rw [← hWS]; exact pk_uLn (by omega)
  have wsz : WS' kz = KA' kz := by rw [← hWS, ← hKA, pk_uLs, pk_uLs]
  have c1 : ∀ j, j < kz + 1 → KA' j = WS' j ∧ KD' j = LN' j ∧ ∃ n : Nat, LN' j = nI n ∧ n ≤ 240 ∧ ∀ i, i < n → KP' (256 * j + i) = PT' (j * 242 + i) := by
    intro j hj
    by_cases c : j = kz
    · subst c
      refine ⟨wsz.symm, by rw [kdz, lnz], k, lnz, by omega, fun i hi => ?_⟩
      rw [mk2 i (by omega) hi, hg i hi, ← hPT, pk_cpy_in (by omega) (by omega), show 0 + (j * 242 + i - j * 242) = i by omega]
    · obtain ⟨e1, e2, n, e3, e4, e5⟩ := h3 j (by omega)
      refine ⟨by rw [ka0 j (by omega), ws0 j (by omega)]; exact e1, by rw [kd0 j (by omega), ln0 j (by omega)]; exact e2, n, by rw [ln0 j (by omega)]; exact e3, e4, fun i hi => ?_⟩
      rw [mk1 _ (by omega), ← hPT, pk_cpy_out (Or.inl (by omega))]
      exact e5 i hi
  have len : ∀ j, j < kz + 1 → (KD' j).toNatClampNeg ≤ 240 ∧ (LN' j).toNatClampNeg = (KD' j).toNatClampNeg := by
    intro j hj
    obtain ⟨-, e2, n, e3, e4, -⟩ := c1 j hj
    rw [e2, e3, nI_clamp (by omega)]
    exact ⟨e4, rfl⟩
  -- the order of the older ones stays
  have old : ∀ a b, a < kz → b < kz → (kl_lt KA' (fun a i => KP' (256 * a + i)) (fun a => (KD' a).toNatClampNeg) a b ↔ kl_lt KA (fun a i => KP (256 * a + i)) (fun a => (KD a).toNatClampNeg) a b) := by
    intro a b ha hb
    have la := (kk_len hK ha).1
    have lb := (kk_len hK hb).1
    refine kl_congr (ka0 a ha) (ka0 b hb) (by show (KD' a).toNatClampNeg = _; rw [kd0 a ha]) (by show (KD' b).toNatClampNeg = _; rw [kd0 b hb]) (fun j hj => ?_) (fun j hj => ?_)
    · have hj : j < (KD' a).toNatClampNeg := hj
      rw [kd0 a ha] at hj
      exact mk1 _ (by omega)
    · have hj : j < (KD' b).toNatClampNeg := hj
      rw [kd0 b hb] at hj
      exact mk1 _ (by omega)
  have bef' : ∀ a b, a < kz + 1 → b < kz + 1 → (mBef KA' KP' a b (KD' a).toNatClampNeg (KD' b).toNatClampNeg = true ↔ kl_lt KA' (fun a i => KP' (256 * a + i)) (fun a => (KD' a).toNatClampNeg) a b) := fun a b ha hb =>
    kl_mBef (l := fun a => (KD' a).toNatClampNeg) (len a ha).1 (len b hb).1 (by omega) (by omega)
  -- what the class compares
  have cmp : ∀ b, b < kz → (befK WS' PT' kz b k (LN' b).toNatClampNeg = true ↔ kl_lt KA' (fun a i => KP' (256 * a + i)) (fun a => (KD' a).toNatClampNeg) kz b) := by
    intro b hb
    have lk : (LN' kz).toNatClampNeg = k := by rw [lnz, nI_clamp (by omega)]
    have e := kl_befK (WS := WS') (PT := PT') (l := fun a => (LN' a).toNatClampNeg) (a := kz) (b := b) (by show (LN' kz).toNatClampNeg ≤ 240; rw [lk]; omega) (by show (LN' b).toNatClampNeg ≤ 240; rw [(len b (by omega)).2]; exact (len b (by omega)).1) hb
    rw [lk] at e
    rw [e]
    obtain ⟨z1, z2, nz, z3, z4, z5⟩ := c1 kz (by omega)
    obtain ⟨b1, b2, nb, b3, b4, b5⟩ := c1 b (by omega)
    refine kl_congr z1.symm b1.symm (len kz (by omega)).2 (len b (by omega)).2 (fun j hj => ?_) (fun j hj => ?_)
    · have hj : j < (LN' kz).toNatClampNeg := hj
      rw [z3, nI_clamp (by omega)] at hj
      exact (z5 j hj).symm
    · have hj : j < (LN' b).toNatClampNeg := hj
      rw [b3, nI_clamp (by omega)] at hj
      exact (b5 j hj).symm
  obtain ⟨q, q1, q2, q3, q4, q5, q6⟩ := kl_ins (WS := WS') (LN := LN') (PT := PT') (OD := OD) (z := kz) (k := k) kz OD (Nat.le_refl _) (fun i _ => rfl) (fun i a b => absurd b (by omega)) (fun i a b => absurd b (by omega))
  generalize hOD : insL WS' LN' PT' kz k kz OD = OD' at *
  -- behind the new one
  have hi' : ∀ i a, q ≤ i → i < kz → OD i = nI a → a < kz → kl_lt KA' (fun a i => KP' (256 * a + i)) (fun a => (KD' a).toNatClampNeg) kz a := by
    intro i a hq hi ea ha
    have := q5 i hq hi
    rw [ea, nI_clamp (by omega)] at this
    exact (cmp a ha).mp this
  have lo' : ∀ i a, i < q → OD i = nI a → a < kz → kl_lt KA' (fun a i => KP' (256 * a + i)) (fun a => (KD' a).toNatClampNeg) a kz := by
    intro i a hq ea ha
    obtain ⟨b, eb, hb, -⟩ := h4 (q - 1) (by omega)
    have t := q6 (by omega)
    rw [eb, nI_clamp (by omega)] at t
    have nb : ¬ kl_lt KA' (fun a i => KP' (256 * a + i)) (fun a => (KD' a).toNatClampNeg) kz b := fun w => by
      have := (cmp b hb).mpr w
      rw [t] at this; exact absurd this (by decide)
    have bz : kl_lt KA' (fun a i => KP' (256 * a + i)) (fun a => (KD' a).toNatClampNeg) b kz := by
      rcases kl_tri KA' (fun a i => KP' (256 * a + i)) (fun a => (KD' a).toNatClampNeg) b kz (by omega) with w | w
      · exact w
      · exact absurd w nb
    by_cases c : i = q - 1
    · subst c
      rw [eb, nI_eq (by omega) (by omega)] at ea
      subst ea; exact bz
    · exact kl_trans _ _ _ a b kz ((old a b ha hb).mpr (h6 i (q - 1) a b (by omega) (by omega) ea eb ha hb)) bz
  -- the reference's count of an older one
  have cold : ∀ a, a < kz → cntL KA' KD' KP' (kz + 1) a (kz + 1) 0 (nI 0) = cntL KA KD KP kz a kz 0 (nI 0) + nI (if mBef KA' KP' kz a (KD' kz).toNatClampNeg (KD' a).toNatClampNeg then 1 else 0) := by
    intro a ha
    rw [kl_cnt (kz + 1) 0 _ (by omega), kl_cnt kz 0 _ (by omega), cf_last, ← nI_add, ← Int32.add_assoc, Nat.zero_add]
    congr 3
    refine cf_congr kz 0 (fun t _ ht => ?_)
    have ht : t < kz := by omega
    have e1 := bef' t a (by omega) (by omega)
    have e2 := kk_bef hK ht ha
    rw [old t a ht ha] at e1
    rw [Bool.eq_iff_iff, e1, e2]
  refine ⟨rfl, by omega, c1, fun i hi => ?_, fun a ha => ?_, fun i j a b hij hj ea eb ha hb => ?_⟩
  · by_cases c : i < q
    · obtain ⟨a, ea, ha, er⟩ := h4 i (by omega)
      refine ⟨a, by rw [q2 i c]; exact ea, by omega, ?_⟩
      have nz : ¬ kl_lt KA' (fun a i => KP' (256 * a + i)) (fun a => (KD' a).toNatClampNeg) kz a := kl_asym _ _ _ _ _ (lo' i a c ea ha)
      have hf : mBef KA' KP' kz a (KD' kz).toNatClampNeg (KD' a).toNatClampNeg = false := by
        cases hm : mBef KA' KP' kz a (KD' kz).toNatClampNeg (KD' a).toNatClampNeg
        · rfl
        · exact absurd ((bef' kz a (by omega) (by omega)).mp hm) nz
      rw [cold a ha, hf, er]; exact Int32.add_zero _
    · by_cases c2 : i = q
      · subst c2
        refine ⟨kz, q3, by omega, ?_⟩
        rw [kl_cnt (kz + 1) 0 _ (by omega), cf_last, Nat.zero_add]
        have hzz : mBef KA' KP' kz kz (KD' kz).toNatClampNeg (KD' kz).toNatClampNeg = false := by
          cases hm : mBef KA' KP' kz kz (KD' kz).toNatClampNeg (KD' kz).toNatClampNeg
          · rfl
          · have w := (bef' kz kz (by omega) (by omega)).mp hm
            exact absurd w (kl_asym _ _ _ _ _ w)
        rw [hzz]
        have hc : cf (fun j => mBef KA' KP' j kz (KD' j).toNatClampNeg (KD' kz).toNatClampNeg) kz 0 = cf (inq OD i) kz 0 := by
          refine cf_congr kz 0 (fun t _ ht => ?_)
          have ht : t < kz := by omega
          rw [Bool.eq_iff_iff, bef' t kz (by omega) (by omega), inq_iff]
          constructor
          · intro w
            obtain ⟨x, hx, ex⟩ := h5 t ht
            refine ⟨x, ?_, ex⟩
            apply Decidable.byContradiction
            intro nx
            exact absurd (hi' x t (by omega) hx ex ht) (kl_asym _ _ _ _ _ w)
          · rintro ⟨x, hx, ex⟩
            exact lo' x t hx ex ht
        rw [hc, inq_cnt h2 (fun x hx => by obtain ⟨a, ea, ha, -⟩ := h4 x hx; exact ⟨a, ea, ha⟩) (fun x y hxy hy e => ?_) i q1]
        · simp [nI_add]
        · obtain ⟨a, ea, ha, er⟩ := h4 x (by omega)
          obtain ⟨b, eb, hb, es⟩ := h4 y hy
          rw [ea, eb, nI_eq (by omega) (by omega)] at e
          subst e
          rw [er, nI_eq (by omega) (by omega)] at es
          omega
      · obtain ⟨i', rfl⟩ : ∃ i', i = i' + 1 := ⟨i - 1, by omega⟩
        obtain ⟨a, ea, ha, er⟩ := h4 i' (by omega)
        refine ⟨a, by rw [q4 i' (by omega) (by omega)]; exact ea, by omega, ?_⟩
        rw [cold a ha, (bef' kz a (by omega) (by omega)).mpr (hi' i' a (by omega) (by omega) ea ha), er]
        exact nI_add i' 1
  · by_cases c : a = kz
    · subst c; exact ⟨q, by omega, q3⟩
    · obtain ⟨i, hi, ei⟩ := h5 a (by omega)
      by_cases c2 : i < q
      · exact ⟨i, by omega, by rw [q2 i c2]; exact ei⟩
      · exact ⟨i + 1, by omega, by rw [q4 i (by omega) hi]; exact ei⟩
  · -- in order
    have pos : ∀ x c, x < kz + 1 → OD' x = nI c → c < kz + 1 → (x < q ∧ OD x = nI c ∧ c < kz) ∨ (x = q ∧ c = kz) ∨ (q < x ∧ OD (x - 1) = nI c ∧ c < kz) := by
      intro x c hx ec hc
      by_cases c1 : x < q
      · left
        rw [q2 x c1] at ec
        obtain ⟨w, ew, hw, -⟩ := h4 x (by omega)
        have : w = c := by rw [ew, nI_eq (by omega) (by omega)] at ec; exact ec
        subst this
        exact ⟨c1, ew, hw⟩
      · by_cases c2 : x = q
        · right; left
          subst c2
          rw [q3, nI_eq (by omega) (by omega)] at ec
          exact ⟨rfl, ec.symm⟩
        · right; right
          have e := q4 (x - 1) (by omega) (by omega)
          rw [show x - 1 + 1 = x by omega, ec] at e
          obtain ⟨w, ew, hw, -⟩ := h4 (x - 1) (by omega)
          have : c = w := by rw [ew, nI_eq (by omega) (by omega)] at e; exact e
          subst this
          exact ⟨by omega, ew, hw⟩
    rcases pos i a (by omega) ea ha with ⟨p1, p2, p3⟩ | ⟨p1, p2⟩ | ⟨p1, p2, p3⟩
    · rcases pos j b hj eb hb with ⟨r1, r2, r3⟩ | ⟨r1, r2⟩ | ⟨r1, r2, r3⟩
      · exact (old a b p3 r3).mpr (h6 i j a b hij (by omega) p2 r2 p3 r3)
      · subst r2; exact lo' i a p1 p2 p3
      · exact (old a b p3 r3).mpr (h6 i (j - 1) a b (by omega) (by omega) p2 r2 p3 r3)
    · rcases pos j b hj eb hb with ⟨r1, r2, r3⟩ | ⟨r1, r2⟩ | ⟨r1, r2, r3⟩
      · omega
      · omega
      · subst p2; exact hi' (j - 1) b (by omega) (by omega) r2 r3
    · rcases pos j b hj eb hb with ⟨r1, r2, r3⟩ | ⟨r1, r2⟩ | ⟨r1, r2, r3⟩
      · omega
      · omega
      · exact (old a b p3 r3).mpr (h6 (i - 1) (j - 1) a b (by omega) (by omega) p2 r2 p3 r3)
end KK
