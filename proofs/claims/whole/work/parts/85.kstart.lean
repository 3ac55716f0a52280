-- WHAT THE STATEMENT GIVES OF THE START
theorem kg_startS : ∀ q ∈ kg_S, Cond.exactly (.string q.1 q.2.1) "java/lang/String" ∈ flatC (Jvm.Cond.and given_1 narrow_1) ∧ Cond.stringRef q.1 q.2.1 q.2.2 ∈ lw_tbl := by decide +kernel
theorem kg_startN : ∀ w ∈ kg_N, w ∈ lw_tbl := by decide +kernel
def kg_dbm (j : Nat) : Cond := .eq (.elem (.static "ClockTexts" "DAYS_BEFORE_MONTH" "[I") (.int (Int32.ofNat j))) (.int (dbm j))
theorem kg_startD : ∀ j, j < 13 → kg_dbm j ∈ flatC (Jvm.Cond.and given_1 narrow_1) := by decide +kernel
theorem kg_start {p : Program} {s : State} {m : MethodId} {meth : Method} {c : Code} {b L : Nat} {xs : Nat → Int32} (C0 : lw_At p s m meth c b L xs) : ∃ st : Nat, kg st (fun q : Nat => s.heap.size ≤ q) s ∧ kn s := by
  obtain ⟨-, -, -, -, -, hts, -, -, -, hgv⟩ := C0
  have hs := flat_of_before _ hgv
  have hAn : ∀ a : Nat, a < s.heap.size → ¬ (fun q : Nat => s.heap.size ≤ q) a := fun a h => Nat.not_le.mpr h
  obtain ⟨st, e1, hT⟩ := va_Tof (args := #[Value.ref b]) (s := s) (tm := .static "ClockTexts" "DAYS_BEFORE_MONTH" "[I") (ty := .int) (N := 13) (f := fun j => .int (dbm j)) (A := fun q : Nat => s.heap.size ≤ q) (by decide) (hs _ (by decide +kernel))
    (va_eqt (hs (.eq (.length (.static "ClockTexts" "DAYS_BEFORE_MONTH" "[I")) (.int 13)) (by decide +kernel))) (fun j hj => va_eqt (hs (kg_dbm j) (kg_startD j hj))) hAn
  refine ⟨st, ⟨fun w hw => va_Nw.of (kg_ot (kg_all w hw)) (hts w (kg_startN w hw)), va_Zof (hts (.laysStatic "ClockTexts" "DAYS_BEFORE_MONTH" "[I") (by decide +kernel)) (hts (.initialized "ClockTexts") (by decide +kernel)) e1 hAn, hT,
    vx_Zqof (hts (.laysStatic "java/lang/Throwable" "UNASSIGNED_STACK" "[Ljava/lang/StackTraceElement;") (by decide +kernel)) (hts (.initialized "java/lang/Throwable") (by decide +kernel)) (hs (.isRef (.static "java/lang/Throwable" "UNASSIGNED_STACK" "[Ljava/lang/StackTraceElement;")) (by decide +kernel)) hAn,
    vx_Zqof (hts (.laysStatic "java/lang/Throwable" "SUPPRESSED_SENTINEL" "Ljava/util/List;") (by decide +kernel)) (hts (.initialized "java/lang/Throwable") (by decide +kernel)) (hs (.isRef (.static "java/lang/Throwable" "SUPPRESSED_SENTINEL" "Ljava/util/List;")) (by decide +kernel)) hAn, fun q hq => ?_⟩,
    va_Nc.of (hs (.not (.castable "java/lang/IllegalStateException" "java/lang/IllegalArgumentException")) (by decide +kernel)), va_Nc.of (hs (.not (.castable "java/lang/IndexOutOfBoundsException" "java/lang/IllegalStateException")) (by decide +kernel)), va_Nc.of (hs (.not (.castable "java/lang/UnsupportedOperationException" "java/lang/IllegalStateException")) (by decide +kernel))⟩
  obtain ⟨h1, h2⟩ := kg_startS q hq
  obtain ⟨a, c', cell, k, ha, -⟩ := Cond.exactly_spec (hs _ h1)
  exact ⟨a, vk_R.of (hts _ h2) ha⟩
theorem kinv_0 : kinv false 0 (fun _ => 0) 0 (fun _ => 0) 0 0 0 0 0 0 0 0 (fun _ => 0) 0 (fun _ => 0) (fun _ => 0) (fun _ => 0) (fun _ => 0) (fun _ => 0) 0 0 false 0 (fun _ => 0) 0 (fun _ => 0) 0 0 (fun _ => 0) (fun _ => 0) (fun _ => 0) :=
  ⟨kb_0, kb_0, rfl, rfl, fun h => absurd h (by decide), ⟨rfl, by omega, fun j h => absurd h (by omega), fun j h => absurd h (by omega), fun j h => absurd h (by omega), fun i j a b h1 h2 => absurd h2 (by omega)⟩, by omega, by omega, fun _ => rfl⟩
