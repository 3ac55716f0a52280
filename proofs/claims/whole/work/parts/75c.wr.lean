-- WRITING
def wt (f : Nat → Int32) (n : Nat) (U : Nat → Int32) (m : Nat) : Prop := m = n ∧ ∀ i, i < n → U i = f i &&& 255
def wd (U : Nat → Int32) (m : Nat) : Prop := ∀ i, i < m → ∃ q : Nat, q < 10 ∧ U i = nI (48 + q)
theorem wr_255 {c : Nat} (h : c < 128) : nI c &&& 255 = nI c := by
  rw [pk_andN (by omega) 8 (by decide)]; congr 1; omega
theorem wr_app {f U : Nat → Int32} {n m c : Nat} (h : wt f n U m) (hn : n < 242) (hc : c < 128) : wt (rApp f n (nI c)).1 (rApp f n (nI c)).2 (upd U m (nI c)) (m + 1) ∧ (rApp f n (nI c)).2 = n + 1 := by
  obtain ⟨rfl, h2⟩ := h
  rw [rd_rApp hn hc]
  refine ⟨⟨rfl, fun i hi => ?_⟩, rfl⟩
  by_cases e : i = m
  · subst e; rw [pk_us]; show _ = upd f i (nI c) i &&& 255; rw [pk_us, wr_255 hc]
  · rw [pk_un e]; show _ = upd f m (nI c) i &&& 255; rw [pk_un e]; exact h2 i (by omega)
theorem wr_pair {f U : Nat → Int32} {n m v w : Nat} (h : wt f n U m) (hn : n + 2 ≤ 242) (hv : v = w % 100) (hw : w < 10000) :
    wt (rPair f n (nI v)).1 (rPair f n (nI v)).2 (mPut2 U m (nI w)).1 (mPut2 U m (nI w)).2 ∧ (rPair f n (nI v)).2 = n + 2 ∧ (wd U m → wd (mPut2 U m (nI w)).1 (mPut2 U m (nI w)).2) := by
  have e1 : 48 + nI v / 10 = nI (48 + v / 10) := by rw [nu_l48, nu_l10, pk_div (by omega) (by omega) (by omega), nI_add]
  have e2 : 48 + (nI v - nI v / 10 * 10) = nI (48 + v % 10) := by rw [nu_l48, nu_l10, pk_rem (by omega) (by omega) (by omega), nI_add]
  have e3 : 48 + ((nI w / 10) - (nI w / 10) / 10 * 10) = nI (48 + v / 10) := by
    rw [nu_l48, nu_l10, pk_div (by omega) (by omega) (by omega), pk_rem (by omega) (by omega) (by omega), nI_add]; congr 1; omega
  have e4 : 48 + ((nI w / 1) - (nI w / 1) / 10 * 10) = nI (48 + v % 10) := by
    rw [nu_l48, nu_l10, nu_l1, pk_div (by omega) (by omega) (by omega), pk_rem (by omega) (by omega) (by omega), nI_add]; congr 1; omega
  unfold rPair mPut2 rAp
  rw [e1, e2, e3, e4]
  obtain ⟨a1, a2⟩ := wr_app (c := 48 + v / 10) h (by omega) (by omega)
  obtain ⟨b1, b2⟩ := wr_app (c := 48 + v % 10) a1 (by omega) (by omega)
  refine ⟨b1, by rw [b2, a2], fun hd i hi => ?_⟩
  have hi : i < m + 1 + 1 := hi
  show ∃ q : Nat, q < 10 ∧ upd (upd U m (nI (48 + v / 10))) (m + 1) (nI (48 + v % 10)) i = nI (48 + q)
  by_cases c1 : i = m + 1
  · subst c1; exact ⟨v % 10, by omega, pk_us⟩
  · rw [pk_un c1]
    by_cases c2 : i = m
    · subst c2; exact ⟨v / 10, by omega, pk_us⟩
    · rw [pk_un c2]; exact hd i (by omega)
theorem wr_put4 {U : Nat → Int32} {m Y : Nat} (h : Y < 10000) : mPut4 U m (nI Y) = mPut2 (mPut2 U m (nI (Y / 100))).1 (mPut2 U m (nI (Y / 100))).2 (nI Y) := by
  have e1 : nI Y / 1000 = nI (Y / 100) / 10 := by
    rw [show (1000 : Int32) = nI 1000 from rfl, nu_l10, pk_div (by omega) (by omega) (by omega), pk_div (by omega) (by omega) (by omega)]; congr 1; omega
  have e2 : nI Y / 100 = nI (Y / 100) / 1 := by
    rw [nu_l100, nu_l1, pk_div (by omega) (by omega) (by omega), pk_div (by omega) (by omega) (by omega)]; congr 1; omega
  unfold mPut4 mPut2
  rw [e1, e2]
theorem wr_part {g PD : Nat → Int32} {k : Nat} (hg : pd_ok g k) (hP : ∀ i, i < k → PD i = g i) : ∀ (N i : Nat) (f U : Nat → Int32) (n m : Nat), i + N = k → wt f n U m → n + N ≤ 242 →
    wt (wrL g k N i f n).1 (wrL g k N i f n).2 (wpL PD k N i U m).1 (wpL PD k N i U m).2 ∧ (wrL g k N i f n).2 = n + N ∧ (∀ t, t < m → (wpL PD k N i U m).1 t = U t) := by
  intro N
  induction N with
  | zero => intro i f U n m _ h _; exact ⟨h, rfl, fun _ _ => rfl⟩
  | succ N ih =>
    intro i f U n m hi h hn
    have e1 : wrL g k (N + 1) i f n = if k ≤ i then (f, n) else wrL g k N (i + 1) (rApp f n (48 + g i)).1 (rApp f n (48 + g i)).2 := rfl
    have e2 : wpL PD k (N + 1) i U m = if k ≤ i then (U, m) else wpL PD k N (i + 1) (mPut1 U m (PD i)).1 (mPut1 U m (PD i)).2 := rfl
    obtain ⟨q, hq, eq⟩ := hg i (by omega)
    rw [e1, e2, if_neg (by omega), if_neg (by omega), hP i (by omega), eq, nu_l48, nI_add]
    have e3 : mPut1 U m (nI q) = (upd U m (nI (48 + q)), m + 1) := by
      unfold mPut1
      rw [nu_l48, nu_l10, nu_l1, pk_div (by omega) (by omega) (by omega), pk_rem (by omega) (by omega) (by omega), nI_add, show q / 1 % 10 = q by omega]
    rw [e3]
    obtain ⟨a1, a2⟩ := wr_app (c := 48 + q) h (by omega) (by omega)
    obtain ⟨b1, b2, b3⟩ := ih (i + 1) _ _ _ _ (by omega) a1 (by omega)
    refine ⟨b1, by rw [b2, a2]; omega, fun t ht => ?_⟩
    rw [b3 t (by omega)]; exact pk_un (by omega)
/-- behind the units: the part, and the letter -/
theorem wr_end {g PD f U : Nat → Int32} {k n m : Nat} (hg : pd_ok g k) (hP : ∀ i, i < k → PD i = g i) (hk : k ≤ 226) (hn : n = 14 ∨ n ≤ 12) (h : wt f n U m) (hd : n = 14 → wd U m)
    (F : (Nat → Int32) × Nat) (R : (Nat → Int32) × Nat)
    (hF : F = if (nI k) ≤ 0 then ((rApp f n 90).1, (rApp f n 90).2)
    else
      let v_125 := rApp f n 46
      ((rApp (wrL g k k 0 v_125.1 v_125.2).1 (wrL g k k 0 v_125.1 v_125.2).2 90).1, (rApp (wrL g k k 0 v_125.1 v_125.2).1 (wrL g k k 0 v_125.1 v_125.2).2 90).2))
    (hR : R = if (nI k) ≤ 0 then
      (upd (wpL PD k k 0 U m).1 (wpL PD k k 0 U m).2 90, (wpL PD k k 0 U m).2 + 1)
    else
      (upd (wpL PD k k 0 (upd U m 46) (m + 1)).1 (wpL PD k k 0 (upd U m 46) (m + 1)).2 90, (wpL PD k k 0 (upd U m 46) (m + 1)).2 + 1)) : kb_text F.1 F.2 R.1 R.2 := by
  have e90 : (90 : Int32) = nI 90 := rfl
  have e46 : (46 : Int32) = nI 46 := rfl
  by_cases c : k = 0
  · subst c
    rw [if_pos (show nI 0 ≤ 0 from Int32.le_refl _), e90] at hF hR
    have eR : R = (upd U m (nI 90), m + 1) := hR
    obtain ⟨⟨a1, a3⟩, a2⟩ := wr_app (c := 90) h (by omega) (by omega)
    rw [hF, eR]
    exact ⟨a1, by dsimp only; omega, a3, Or.inl (by dsimp only; omega)⟩
  · rw [if_neg (show ¬ nI k ≤ 0 from nI_nle (by omega) (by omega))] at hF hR
    dsimp only at hF
    rw [e90, e46] at hF hR
    obtain ⟨a1, a2⟩ := wr_app (c := 46) h (by omega) (by omega)
    obtain ⟨b1, b2, b3⟩ := wr_part hg hP k 0 _ _ _ _ (by omega) a1 (by omega)
    obtain ⟨⟨c1, c3⟩, c2⟩ := wr_app (c := 90) b1 (by omega) (by omega)
    rw [hF, hR]
    refine ⟨c1, by dsimp only; omega, c3, ?_⟩
    by_cases q : n = 14
    · right
      intro i hi
      obtain ⟨x, hx, ex⟩ := hd q i (by have := h.1; omega)
      refine ⟨x, hx, ?_⟩
      have hm := h.1
      have hm2 := b1.1
      dsimp only
      rw [pk_un (by omega), b3 i (by omega), pk_un (by omega)]
      exact ex
    · left; dsimp only; omega
theorem wr_ok {y mo d hh mi ss : Int32} {k : Nat} {g : Nat → Int32} {al : Int64} {PD : Nat → Int32} {dg : Nat} {f U : Nat → Int32} {kind : Int32} (hk : kind = 0 ∨ kind = 1) (h : kt_time y mo d hh mi ss k g al PD dg) :
    kb_text (wrMom kind y mo d hh mi ss g k f 0).1 (wrMom kind y mo d hh mi ss g k f 0).2 (mWrite al dg PD kind U 0).1 (mWrite al dg PD kind U 0).2 := by
  obtain ⟨Y, M, D, h, m, s, rfl, rfl, rfl, rfl, rfl, rfl, hY, h1, h2, hD, hD2, hh, hm, hs, rfl, rfl, hk6, hg, hP⟩ := h
  have hd := nu_days_le Y M
  obtain ⟨u0, u1, u2, u3, u4, u5, -, -⟩ := nu_unit (dg := dg) hY h1 h2 hD hD2 hh hm hs
  have w0 : wt f 0 U 0 := ⟨rfl, fun i hi => absurd hi (by omega)⟩
  have d0 : wd U 0 := fun i hi => absurd hi (by omega)
  have ey : nI Y - nI Y / 100 * 100 = nI (Y % 100) := by rw [nu_l100, pk_rem (by omega) (by omega) (by omega)]
  rcases hk with rfl | rfl
  · obtain ⟨a1, a2, a3⟩ := wr_pair (w := Y) (v := Y % 100) w0 (by omega) rfl hY
    obtain ⟨b1, b2, b3⟩ := wr_pair (w := M) (v := M) a1 (by omega) (by omega) (by omega)
    obtain ⟨c1, c2, c3⟩ := wr_pair (w := D) (v := D) b1 (by omega) (by omega) (by omega)
    obtain ⟨x1, x2, x3⟩ := wr_pair (w := h) (v := h) c1 (by omega) (by omega) (by omega)
    obtain ⟨y1, y2, y3⟩ := wr_pair (w := m) (v := m) x1 (by omega) (by omega) (by omega)
    obtain ⟨z1, z2, z3⟩ := wr_pair (w := s) (v := s) y1 (by omega) (by omega) (by omega)
    refine wr_end hg hP hk6 (by omega) z1 (fun q => by omega) _ _ ?_ ?_
    · unfold wrMom
      rw [if_neg (show ¬ (0 : Int32) = 1 by decide), ey]
    · unfold mWrite
      rw [if_pos rfl, u0, u1, u2, u3, u4, u5]
  · have hc : nI Y / 100 = nI (Y / 100) := by rw [nu_l100, pk_div (by omega) (by omega) (by omega)]
    obtain ⟨a1, a2, a3⟩ := wr_pair (w := Y / 100) (v := Y / 100) w0 (by omega) (by omega) (by omega)
    obtain ⟨p1, p2, p3⟩ := wr_pair (w := Y) (v := Y % 100) a1 (by omega) rfl hY
    obtain ⟨b1, b2, b3⟩ := wr_pair (w := M) (v := M) p1 (by omega) (by omega) (by omega)
    obtain ⟨c1, c2, c3⟩ := wr_pair (w := D) (v := D) b1 (by omega) (by omega) (by omega)
    obtain ⟨x1, x2, x3⟩ := wr_pair (w := h) (v := h) c1 (by omega) (by omega) (by omega)
    obtain ⟨y1, y2, y3⟩ := wr_pair (w := m) (v := m) x1 (by omega) (by omega) (by omega)
    obtain ⟨z1, z2, z3⟩ := wr_pair (w := s) (v := s) y1 (by omega) (by omega) (by omega)
    refine wr_end hg hP hk6 (by omega) z1 (fun q => z3 (y3 (x3 (c3 (b3 (p3 (a3 d0))))))) _ _ ?_ ?_
    · unfold wrMom
      rw [if_pos rfl, ey, hc]
    · unfold mWrite
      rw [if_neg (show ¬ (1 : Int32) = 0 by decide), u0, u1, u2, u3, u4, u5, wr_put4 hY]
