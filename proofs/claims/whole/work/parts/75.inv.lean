-- THE INVARIANT between the class's cells and the reference's
/-- a row of bytes f of length n, and the reference's row X of length m -/
def kb_text (f : Nat → Int32) (n : Nat) (X : Nat → Int32) (m : Nat) : Prop := m = n ∧ n ≤ 242 ∧ (∀ i, i < n → X i = f i &&& 255) ∧ (n ≤ 240 ∨ ∀ i, i < 14 → ∃ q : Nat, q < 10 ∧ X i = nI (48 + q))
/-- a time: the class's units, the reference's seconds, the same part -/
def kt_time (y mo d hh mi ss : Int32) (k : Nat) (g : Nat → Int32) (al : Int64) (PD : Nat → Int32) (dg : Nat) : Prop :=
  ∃ Y M D h m s : Nat, y = nI Y ∧ mo = nI M ∧ d = nI D ∧ hh = nI h ∧ mi = nI m ∧ ss = nI s ∧ Y < 10000 ∧ 1 ≤ M ∧ M ≤ 12 ∧ 1 ≤ D ∧ D ≤ nDays Y M ∧ h < 24 ∧ m < 60 ∧ s < 60 ∧ al = lN (86400 * nDay Y M D + 3600 * h + 60 * m + s) ∧ dg = k ∧ k ≤ 226 ∧ pd_ok g k ∧ ∀ i, i < k → PD i = g i
/-- kept times -/
def kk_kept (z : Nat) (WS : Nat → Int64) (LN PT OD : Nat → Int32) (kz : Nat) (KA : Nat → Int64) (KD KP : Nat → Int32) : Prop :=
  kz = z ∧ z ≤ 40 ∧ (∀ j, j < z → KA j = WS j ∧ KD j = LN j ∧ ∃ n : Nat, LN j = nI n ∧ n ≤ 240 ∧ ∀ i, i < n → KP (256 * j + i) = PT (j * 242 + i)) ∧
  (∀ i, i < z → ∃ a : Nat, OD i = nI a ∧ a < z ∧ cntL KA KD KP kz a kz 0 (nI 0) = nI i) ∧ (∀ a, a < z → ∃ i : Nat, i < z ∧ OD i = nI a) ∧
  (∀ i j a b : Nat, i < j → j < z → OD i = nI a → OD j = nI b → a < z → b < z → kl_lt KA (fun a i => KP (256 * a + i)) (fun a => (KD a).toNatClampNeg) a b)
def kinv (tt : Bool) (lf : Int32) (ft : Nat → Int32) (nt : Nat) (fw : Nat → Int32) (nw : Nat) (y mo d hh mi ss : Int32) (k : Nat) (g : Nat → Int32) (z : Nat) (WS : Nat → Int64) (LN PT OD : Nat → Int32)
    (X : Nat → Int32) (mz : Nat) (fl : Int32) (it : Bool) (al : Int64) (PD : Nat → Int32) (dg : Nat) (U : Nat → Int32) (wr kz : Nat) (KA : Nat → Int64) (KD KP : Nat → Int32) : Prop :=
  kb_text ft nt X mz ∧ kb_text fw nw U wr ∧ fl = lf ∧ it = tt ∧ (tt = true → kt_time y mo d hh mi ss k g al PD dg) ∧ kk_kept z WS LN PT OD kz KA KD KP ∧ k ≤ 242 ∧ dg ≤ 250 ∧ ∀ i : Nat, fits .byte (.int (g i)) = true
section KI
variable {tt : Bool} {lf : Int32} {ft : Nat → Int32} {nt : Nat} {fw : Nat → Int32} {nw : Nat} {ta ah y mo d hh mi ss : Int32} {k : Nat} {g : Nat → Int32} {z : Nat} {WS : Nat → Int64} {LN PT OD : Nat → Int32} {th : Int32} {X : Nat → Int32} {mz : Nat} {fl : Int32} {it : Bool} {al : Int64} {PD : Nat → Int32} {dg : Nat} {U : Nat → Int32} {wr kz : Nat} {KA : Nat → Int64} {KD KP : Nat → Int32} {ma : Nat} {wg : Bool} {G : Nat → Int64}
variable (hI : kinv tt lf ft nt fw nw y mo d hh mi ss k g z WS LN PT OD X mz fl it al PD dg U wr kz KA KD KP)
theorem kinv_b (hI : kinv tt lf ft nt fw nw y mo d hh mi ss k g z WS LN PT OD X mz fl it al PD dg U wr kz KA KD KP) :
    nt ≤ 242 ∧ nw ≤ 242 ∧ k ≤ 242 ∧ z ≤ 40 ∧ (∀ i, i < k → fits .byte (.int (g i)) = true) ∧ (∀ j, j < z → ∃ q : Nat, LN j = nI q ∧ q ≤ 242) ∧ (∀ j, j < z → ∃ q : Nat, OD j = nI q ∧ q < z) ∧
    mz ≤ 242 ∧ wr ≤ 256 ∧ kz ≤ 40 ∧ dg ≤ 250 ∧ (∀ j, j < kz → ∃ q : Nat, KD j = nI q ∧ q ≤ 250) := by
  obtain ⟨⟨h1, h2, h3, -⟩, ⟨h4, h5, h6, -⟩, h7, h8, h9, ⟨h10, h11, h12, h13, -, -⟩, h14, h15, h16⟩ := hI
  refine ⟨h2, h5, h14, h11, fun i _ => h16 i, fun j hj => ?_, fun j hj => ?_, by omega, by omega, by omega, h15, fun j hj => ?_⟩
  · obtain ⟨-, -, n, hn, hn2, -⟩ := h12 j hj
    exact ⟨n, hn, by omega⟩
  · obtain ⟨a, ha, ha2, -⟩ := h13 j hj
    exact ⟨a, ha, ha2⟩
  · obtain ⟨-, hd, n, hn, hn2, -⟩ := h12 j (by omega)
    exact ⟨n, hd.trans hn, by omega⟩
theorem wk_0 {one code : Nat} (h : wk one code = 0) : code = 0 := by
  unfold wk at h
  split at h
  · assumption
  · split at h
    · exact absurd h (by decide)
    · exact absurd h (by decide)
theorem lg_same (x : Int64) : lg_cmp x x = 0 := by
  have h : ¬ x < x := by rw [Int64.lt_iff_toInt_lt]; omega
  simp [lg_cmp, h]
/-- the second check of a round, out of the answers' being the same -/
theorem kv_of {one code : Nat} {G : Nat → Int64} {v b : Int64} (h : code = 0 → v = b) : wk one code = 0 → lg_cmp (wo code G v 0) b = 0 := by
  intro hk
  have hc := wk_0 hk
  rw [show wo code G v 0 = v by unfold wo; rw [if_pos hc]; rfl, h hc]
  exact lg_same b
end KI
