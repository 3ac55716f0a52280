-- BYTES; what stays
theorem by_nat (x : Int32) : (x.toBitVec.toNat : Int) % 256 = x.toInt % 256 := by
  have h : x.toInt = x.toBitVec.toInt := rfl
  rw [h, BitVec.toInt_eq_toNat_cond]
  split <;> omega
theorem by_i8 (a : Int32) : a.toInt8.toInt32 &&& 255 = a &&& 255 := by
  rw [pk_and _ 8 (by decide), pk_and _ 8 (by decide)]
  congr 1
  have h1 := by_nat a
  have h2 := by_nat a.toInt8.toInt32
  rw [lg_i2b_toInt] at h2
  have h3 : (a.toInt.bmod (2 ^ 8)) % 256 = a.toInt % 256 := Int.bmod_emod
  omega
theorem by_sh (v s : Int32) (k : Nat) (hk : k ≤ 24) (h1 : (s.toBitVec.smod 32).toNat = k) (h2 : ((s.toUInt32 &&& Int32.toUInt32 31).toBitVec % 32).toNat = k) :
    (v >>> s) &&& 255 = (v.toUInt32 >>> (s.toUInt32 &&& Int32.toUInt32 31)).toInt32.toInt8.toInt32 &&& 255 := by
  rw [by_i8, pk_and _ 8 (by decide), pk_and _ 8 (by decide), pk_ushr v s k h2]
  congr 1
  have a := by_nat (v >>> s)
  rw [pk_shr v s k h1, Int.shiftRight_eq_div_pow] at a
  have hv : v.toInt = v.toBitVec.toInt := rfl
  rw [hv, BitVec.toInt_eq_toNat_cond] at a
  have hlt := v.toBitVec.isLt
  have hp : (2 : Int) ^ 32 = 2 ^ k * 2 ^ (32 - k) := by rw [← Int.pow_add]; congr 1; omega
  have h8 : (2 : Int) ^ (32 - k) = 256 * 2 ^ (24 - k) := by
    rw [show (256 : Int) = 2 ^ 8 from rfl, ← Int.pow_add]; congr 1; omega
  have hk0 : (2 : Int) ^ k > 0 := Int.pow_pos (by omega)
  have e : ∀ N : Nat, ((N : Int) - 2 ^ 32) / 2 ^ k % 256 = (N : Int) / 2 ^ k % 256 := by
    intro N
    rw [hp, Int.sub_eq_add_neg, ← Int.mul_neg, Int.add_mul_ediv_left _ _ (Int.ne_of_gt hk0), h8, ← Int.mul_neg, Int.add_mul_emod_self_left]
  have cast : ((2 ^ k : Nat) : Int) = 2 ^ k := Int.natCast_pow 2 k
  have c : ((v.toBitVec.toNat / 2 ^ k : Nat) : Int) = (v.toBitVec.toNat : Int) / 2 ^ k := by
    rw [Int.natCast_ediv, cast]
  rw [cast] at a
  have a' : (((v >>> s).toBitVec.toNat : Nat) : Int) % 256 = (v.toBitVec.toNat : Int) / 2 ^ k % 256 := by
    split at a
    · exact a
    · rw [show ((2 ^ 32 : Nat) : Int) = 2 ^ 32 from rfl, e] at a; exact a
  rw [← c] at a'
  omega
theorem by_s0 (v : Int32) : v >>> ((0 : Int32) &&& 31) = v := Int32.toInt_inj.mp (by rw [pk_shr v _ 0 (by decide)]; exact Int.shiftRight_zero _)
theorem by_app {f X : Nat → Int32} {n m : Nat} {v w : Int32} (h : wt f n X m) (hn : n < 242) (hw : w = v.toInt8.toInt32 &&& 255) : wt (rApp f n v).1 (rApp f n v).2 (upd X m w) (m + 1) ∧ (rApp f n v).2 = n + 1 := by
  obtain ⟨rfl, h2⟩ := h
  have e : rApp f m v = (upd f m v.toInt8.toInt32, m + 1) := if_pos hn
  rw [e]
  refine ⟨⟨rfl, fun i hi => ?_⟩, rfl⟩
  by_cases c : i = m
  · subst c; rw [pk_us]; show _ = upd f i v.toInt8.toInt32 i &&& 255; rw [pk_us, hw]
  · rw [pk_un c]; show _ = upd f m v.toInt8.toInt32 i &&& 255; rw [pk_un c]; exact h2 i (by omega)
theorem by_four {f X : Nat → Int32} {n m : Nat} {v : Int32} (h : wt f n X m) (hn : n + 4 ≤ 242) : wt (rFour f n v).1 (rFour f n v).2 (mAdd X m v).1 (mAdd X m v).2 ∧ (rFour f n v).2 = n + 4 := by
  unfold rFour mAdd rAp
  obtain ⟨a1, a2⟩ := by_app (v := (v.toUInt32 >>> ((24 : Int32).toUInt32 &&& Int32.toUInt32 31)).toInt32) (w := (v >>> ((24 : Int32) &&& 31)) &&& 255) h (by omega) (by_sh v 24 24 (by omega) (by decide) (by decide))
  obtain ⟨b1, b2⟩ := by_app (v := (v.toUInt32 >>> ((16 : Int32).toUInt32 &&& Int32.toUInt32 31)).toInt32) (w := (v >>> ((16 : Int32) &&& 31)) &&& 255) a1 (by omega) (by_sh v 16 16 (by omega) (by decide) (by decide))
  obtain ⟨c1, c2⟩ := by_app (v := (v.toUInt32 >>> ((8 : Int32).toUInt32 &&& Int32.toUInt32 31)).toInt32) (w := (v >>> ((8 : Int32) &&& 31)) &&& 255) b1 (by omega) (by_sh v 8 8 (by omega) (by decide) (by decide))
  obtain ⟨d1, d2⟩ := by_app (v := v) (w := (v >>> ((0 : Int32) &&& 31)) &&& 255) c1 (by omega) (by rw [by_i8, by_s0])
  exact ⟨d1, by rw [d2, c2, b2, a2]⟩
theorem by_copy {fw U : Nat → Int32} {nw : Nat} (hn : nw ≤ 242) (hU : ∀ i, i < nw → U i = fw i &&& 255) : ∀ (N i : Nat) (f X : Nat → Int32), i + N = nw → wt f i X i →
    wt (cpL fw nw N i f i).1 (cpL fw nw N i f i).2 (mcL U nw N i X) nw ∧ (cpL fw nw N i f i).2 = nw ∧ (∀ t, i ≤ t → t < nw → mcL U nw N i X t = U t) ∧ (∀ t, t < i → mcL U nw N i X t = X t) := by
  intro N
  induction N with
  | zero => intro i f X hi h
            have : i = nw := by omega
            subst this
            exact ⟨h, rfl, fun t t1 t2 => absurd t2 (by omega), fun _ _ => rfl⟩
  | succ N ih =>
    intro i f X hi h
    have e1 : cpL fw nw (N + 1) i f i = if nw ≤ i then (f, i) else cpL fw nw N (i + 1) (rApp f i (rByte fw nw (nI i))).1 (rApp f i (rByte fw nw (nI i))).2 := rfl
    have e2 : mcL U nw (N + 1) i X = if nw ≤ i then X else mcL U nw N (i + 1) (upd X i (U i)) := rfl
    have er : rByte fw nw (nI i) = U i := (rd_in (f := fw) (X := U) (n := nw) ⟨hn, hU⟩ (by omega)).1
    rw [e1, e2, if_neg (by omega), if_neg (by omega), er]
    obtain ⟨a1, a2⟩ := by_app (v := U i) (w := U i) h (by omega) (by
      rw [by_i8, hU i (by omega), pk_and _ 8 (by decide), pk_andN (by omega) 8 (by decide)]; congr 1; omega)
    have a3 : (rApp f i (U i)).2 = i + 1 := a2
    rw [a3] at a1 ⊢
    obtain ⟨b1, b2, b3, b4⟩ := ih (i + 1) _ _ (by omega) a1
    refine ⟨b1, b2, fun t t1 t2 => ?_, fun t ht => ?_⟩
    · by_cases c : t = i
      · subst c; rw [b4 t (by omega)]; exact pk_us
      · exact b3 t (by omega) t2
    · rw [b4 t (by omega)]; exact pk_un (by omega)
def fb (g : Nat → Int32) : Prop := ∀ i : Nat, fits .byte (.int (g i)) = true
theorem fb_upd {g : Nat → Int32} {k : Nat} {v : Int32} (h : fb g) : fb (upd g k v.toInt8.toInt32) := by
  intro i
  by_cases c : i = k
  · subst c; rw [pk_us]; exact pk_fb v
  · rw [pk_un c]; exact h i
theorem fb_app {g : Nat → Int32} {k : Nat} {v : Int32} (h : fb g) : fb (rApp g k v).1 := by
  unfold rApp
  split
  · exact fb_upd h
  · exact h
theorem fb_pt {f : Nat → Int32} {n : Nat} : ∀ (N t : Nat) (g : Nat → Int32) (k : Nat), fb g → fb (ptL f n N t g k).2.1 := by
  intro N
  induction N with
  | zero => intro t g k h; exact h
  | succ N ih =>
    intro t g k h
    have e : ptL f n (N + 1) t g k = if n ≤ t then (t, g, k) else if rDigit f n (nI t) = -1 then (t, g, k) else ptL f n N (t + 1) (rApp g k (rDigit f n (nI t))).1 (rApp g k (rDigit f n (nI t))).2 := rfl
    rw [e]
    split
    · exact h
    · split
      · exact h
      · exact ih _ _ _ (fb_app h)
theorem fb_sx : ∀ (j : Nat) (g : Nat → Int32) (a : Int32), fb g → fb (sxL j g a).1 := by
  intro j
  induction j with
  | zero => intro g a h; exact h
  | succ j ih =>
    intro g a h
    refine ih (upd g j (vp_nar .byte (((g j * 60) + a) - ((g j * 60) + a) / 10 * 10).toInt8.toInt32)) (((g j * 60) + a) / 10) ?_
    rw [pk_vb]; exact fb_upd h
theorem fb_sp {v mi ss : Int32} {g : Nat → Int32} {k : Nat} (h : fb g) : fb (spread v mi ss g k).2.2.1 := by
  unfold spread
  split
  · split
    · exact fb_sx _ _ _ h
    · exact fb_sx _ _ _ (fb_sx _ _ _ h)
  · split
    · exact h
    · exact fb_sx _ _ _ h
theorem fb_ck {f : Nat → Int32} {n : Nat} {kind ta hh mi ss : Int32} {g : Nat → Int32} {k : Nat} (h : fb g) : fb (rdClock f n kind ta hh mi ss g k).2.2.2.2.2.1 := by
  unfold rdClock
  generalize rdUnits f n ta hh mi ss = v
  dsimp only
  split
  · exact h
  · split
    · split
      · exact h
      · exact h
    · split
      · exact fb_sp (fb_pt _ _ _ _ h)
      · split
        · exact fb_sp (fb_pt _ _ _ _ h)
        · exact h
theorem fb_rd {f : Nat → Int32} {n : Nat} {kind mo d hh : Int32} {g : Nat → Int32} {k : Nat} (h : fb g) : fb (rdFault f n kind mo d hh g k).2.2.2.2.2.2.2.2.2.1 := by
  unfold rdFault
  generalize rdDate f n kind 0 mo d = v
  have hc := fb_ck (f := f) (n := n) (kind := kind) (ta := v.2.1) (hh := hh) (mi := 0) (ss := 0) (k := 0) h
  obtain ⟨v1, v2, v3, v4, v5⟩ := v
  dsimp only at hc ⊢
  generalize rdClock f n kind v2 hh 0 0 g 0 = w at *
  obtain ⟨w1, w2, w3, w4, w5, w6, w7⟩ := w
  dsimp only at hc ⊢
  generalize rdZone f n kind w2 0 = x
  obtain ⟨x1, x2, x3⟩ := x
  dsimp only
  generalize movBy v3 v4 v5 w3 w4 (-x3) = m
  obtain ⟨m1, m2, m3, m4, m5⟩ := m
  dsimp only
  repeat' split
  all_goals first | exact h | exact hc
theorem dg_rp {X : Nat → Int32} {mz ma : Nat} {wg : Bool} {PD : Nat → Int32} {u : Int32} : (mRp X mz ma wg PD 0 u).2.2.2.2 ≤ mz := by
  have a := fun w => (rpL_at (X := X) (mz := mz) (wg := w) (mz - (ma + 1)) (ma + 1) PD 0).2
  have a1 := a true
  have a2 := a false
  unfold mRp
  split
  · split
    · exact Nat.le_trans (stL_le _ _) (by omega)
    · exact Nat.le_trans (stL_le _ _) (by omega)
  · exact Nat.le_trans (stL_le _ _) (by omega)
theorem dg_lo {X : Nat → Int32} {mz ma : Nat} {wg : Bool} {PD : Nat → Int32} : (mLong X mz ma wg PD 0).2.2.2.2 ≤ mz := by
  have hr := fun a w u => dg_rp (X := X) (mz := mz) (ma := a) (wg := w) (PD := PD) (u := u)
  unfold mLong
  have h1 := hr ma wg 3600
  generalize mRp X mz ma wg PD 0 3600 = r1 at *
  obtain ⟨r11, r12, r13, r14, r15⟩ := r1
  generalize mTwo X mz ma wg 0 59 = v1
  obtain ⟨v11, v12, v13⟩ := v1
  dsimp only at h1 ⊢
  have h2 := hr v12 v13 60
  generalize mRp X mz v12 v13 PD 0 60 = r2 at *
  obtain ⟨r21, r22, r23, r24, r25⟩ := r2
  generalize mTwo X mz v12 v13 0 59 = v2
  obtain ⟨v21, v22, v23⟩ := v2
  dsimp only at h2 ⊢
  have h3 := hr v22 v23 1
  generalize mRp X mz v22 v23 PD 0 1 = r3 at *
  obtain ⟨r31, r32, r33, r34, r35⟩ := r3
  dsimp only at h3 ⊢
  repeat' split
  all_goals first | exact Nat.zero_le _ | exact h1 | exact h2 | exact h3
theorem mAll_k {X : Nat → Int32} {mz : Nat} {PD : Nat → Int32} {kind : Int32} {al : Int64} (h : ¬ kind = 0) : mAll X mz PD kind al = mAll X mz PD 1 al := by
  have n1 : ¬ (1 : Int32) = 0 := by decide
  have e1 : mYear X mz 0 false kind = mYear X mz 0 false 1 := by unfold mYear; rw [if_neg h, if_neg n1]
  have e2 : ∀ a w, mZone X mz a w kind = mZone X mz a w 1 := by
    intro a w; unfold mZone; simp only [h, n1, if_false]
  unfold mAll
  simp only [h, n1, if_false, e1, e2]
theorem dg_all {X : Nat → Int32} {mz : Nat} {PD : Nat → Int32} {kind : Int32} {al : Int64} : (mAll X mz PD kind al).2.2.2.2.2 ≤ mz := by
  by_cases hk : kind = 0
  · subst hk
    rcases h1 : mYear X mz 0 false 0 with ⟨v11, v12, v13⟩
    rcases h2 : mTwo X mz v12 v13 1 12 with ⟨v21, v22, v23⟩
    rcases h3 : mTwo X mz v22 v23 1 (mDays v11 v21) with ⟨v31, v32, v33⟩
    rcases h4 : mTwo X mz v32 v33 0 23 with ⟨v41, v42, v43⟩
    rcases h5 : mShort X mz v42 v43 with ⟨v51, v52, v53⟩
    rw [mAll_0 h1 h2 h3 h4 h5]
    generalize mZone X mz v52 v53 0 = v7
    obtain ⟨v71, v72, v73⟩ := v7
    dsimp only
    repeat' split
    all_goals exact Nat.zero_le _
  · rw [mAll_k hk]
    rcases h1 : mYear X mz 0 false 1 with ⟨v11, v12, v13⟩
    rcases h2 : mTwo X mz v12 v13 1 12 with ⟨v21, v22, v23⟩
    rcases h3 : mTwo X mz v22 v23 1 (mDays v11 v21) with ⟨v31, v32, v33⟩
    rcases h4 : mTwo X mz v32 v33 0 23 with ⟨v41, v42, v43⟩
    have h := dg_lo (X := X) (mz := mz) (ma := v42) (wg := v43) (PD := PD)
    rcases h5 : mLong X mz v42 v43 PD 0 with ⟨v51, v52, v53, v54, v55⟩
    rw [h5] at h
    rw [mAll_1 h1 h2 h3 h4 h5]
    generalize mZone X mz v52 v53 1 = v7
    obtain ⟨v71, v72, v73⟩ := v7
    dsimp only at h ⊢
    repeat' split
    all_goals exact h
