abbrev cX5_isDigit : ByteArray := prog_7_method_13_code
def yX5_isDigit : MethodName := ⟨RX5, "isDigit", "()Z"⟩
abbrev cX5_monthNow : ByteArray := prog_7_method_12_code
def yX5_monthNow : MethodName := ⟨RX5, "monthNow", "()I"⟩
abbrev wsX5_isDigit : List Cond := .code yX5_isDigit cX5_isDigit 1 (some .boolean) :: kw
abbrev wsX5_monthNow : List Cond := .code yX5_monthNow cX5_monthNow 3 (some .int) :: kw
theorem kwm_219 : (.code yX5_dayNow cX5_dayNow 1 (some .int) : Cond) ∈ kw := kw_in (i := 659) (by decide +kernel) (by decide +kernel)
theorem kwm_220 : (.methodLink RX5 58 yX5_dayNow : Cond) ∈ kw := kw_in (i := 656) (by decide +kernel) (by decide +kernel)
theorem kwm_221 : (.instanceMethod yX5_dayNow : Cond) ∈ kw := kw_in (i := 658) (by decide +kernel) (by decide +kernel)
theorem kwm_222 : (.selects RX5 yX5_dayNow yX5_dayNow : Cond) ∈ kw := kw_in (i := 27) (by decide +kernel) (by decide +kernel)
theorem kwm_223 : (.code yX5_yearOf cX5_yearOf 2 (some .int) : Cond) ∈ kw := kw_in (i := 662) (by decide +kernel) (by decide +kernel)
theorem kwm_224 : (.methodLink RX5 62 yX5_yearOf : Cond) ∈ kw := kw_in (i := 660) (by decide +kernel) (by decide +kernel)
theorem kwm_225 : (.static yX5_yearOf : Cond) ∈ kw := kw_in (i := 661) (by decide +kernel) (by decide +kernel)
theorem kwm_226 : (.fieldLink RX5 65 "ClockTextsModel" "at" "I" : Cond) ∈ kw := kw_in (i := 543) (by decide +kernel) (by decide +kernel)
theorem dX5_monthNow_0 : decode cX5_monthNow 0 = .ok (.aload_n 0, 1) := by decide +kernel
theorem dX5_monthNow_1 : decode cX5_monthNow 1 = .ok (.invokevirtual 58, 3) := by decide +kernel
theorem dX5_monthNow_4 : decode cX5_monthNow 4 = .ok (.aload_n 0, 1) := by decide +kernel
theorem dX5_monthNow_5 : decode cX5_monthNow 5 = .ok (.invokevirtual 58, 3) := by decide +kernel
theorem dX5_monthNow_8 : decode cX5_monthNow 8 = .ok (.invokestatic 62, 3) := by decide +kernel
theorem dX5_monthNow_11 : decode cX5_monthNow 11 = .ok (.invokestatic 44, 3) := by decide +kernel
theorem dX5_monthNow_14 : decode cX5_monthNow 14 = .ok (.isub, 1) := by decide +kernel
theorem dX5_monthNow_15 : decode cX5_monthNow 15 = .ok (.istore_n 1, 1) := by decide +kernel
theorem dX5_monthNow_16 : decode cX5_monthNow 16 = .ok (.iconst 1, 1) := by decide +kernel
theorem dX5_monthNow_17 : decode cX5_monthNow 17 = .ok (.istore_n 2, 1) := by decide +kernel
theorem dX5_monthNow_18 : decode cX5_monthNow 18 = .ok (.iload_n 1, 1) := by decide +kernel
theorem dX5_monthNow_19 : decode cX5_monthNow 19 = .ok (.aload_n 0, 1) := by decide +kernel
theorem dX5_monthNow_20 : decode cX5_monthNow 20 = .ok (.invokevirtual 58, 3) := by decide +kernel
theorem dX5_monthNow_23 : decode cX5_monthNow 23 = .ok (.invokestatic 62, 3) := by decide +kernel
theorem dX5_monthNow_26 : decode cX5_monthNow 26 = .ok (.iload_n 2, 1) := by decide +kernel
theorem dX5_monthNow_27 : decode cX5_monthNow 27 = .ok (.invokestatic 48, 3) := by decide +kernel
theorem dX5_monthNow_30 : decode cX5_monthNow 30 = .ok (.if_icmp .lt 23, 3) := by decide +kernel
theorem dX5_monthNow_33 : decode cX5_monthNow 33 = .ok (.iload_n 1, 1) := by decide +kernel
theorem dX5_monthNow_34 : decode cX5_monthNow 34 = .ok (.aload_n 0, 1) := by decide +kernel
theorem dX5_monthNow_35 : decode cX5_monthNow 35 = .ok (.invokevirtual 58, 3) := by decide +kernel
theorem dX5_monthNow_38 : decode cX5_monthNow 38 = .ok (.invokestatic 62, 3) := by decide +kernel
theorem dX5_monthNow_41 : decode cX5_monthNow 41 = .ok (.iload_n 2, 1) := by decide +kernel
theorem dX5_monthNow_42 : decode cX5_monthNow 42 = .ok (.invokestatic 48, 3) := by decide +kernel
theorem dX5_monthNow_45 : decode cX5_monthNow 45 = .ok (.isub, 1) := by decide +kernel
theorem dX5_monthNow_46 : decode cX5_monthNow 46 = .ok (.istore_n 1, 1) := by decide +kernel
theorem dX5_monthNow_47 : decode cX5_monthNow 47 = .ok (.iinc 2 1, 3) := by decide +kernel
theorem dX5_monthNow_50 : decode cX5_monthNow 50 = .ok (.goto (-32), 3) := by decide +kernel
theorem dX5_monthNow_53 : decode cX5_monthNow 53 = .ok (.iload_n 2, 1) := by decide +kernel
theorem dX5_monthNow_54 : decode cX5_monthNow 54 = .ok (.ireturn, 1) := by decide +kernel
theorem dX5_isDigit_0 : decode cX5_isDigit 0 = .ok (.aload_n 0, 1) := by decide +kernel
theorem dX5_isDigit_1 : decode cX5_isDigit 1 = .ok (.getfield 65, 3) := by decide +kernel
theorem dX5_isDigit_4 : decode cX5_isDigit 4 = .ok (.aload_n 0, 1) := by decide +kernel
theorem dX5_isDigit_5 : decode cX5_isDigit 5 = .ok (.getfield 33, 3) := by decide +kernel
theorem dX5_isDigit_8 : decode cX5_isDigit 8 = .ok (.if_icmp .ge 35, 3) := by decide +kernel
theorem dX5_isDigit_11 : decode cX5_isDigit 11 = .ok (.aload_n 0, 1) := by decide +kernel
theorem dX5_isDigit_12 : decode cX5_isDigit 12 = .ok (.getfield 7, 3) := by decide +kernel
theorem dX5_isDigit_15 : decode cX5_isDigit 15 = .ok (.aload_n 0, 1) := by decide +kernel
theorem dX5_isDigit_16 : decode cX5_isDigit 16 = .ok (.getfield 65, 3) := by decide +kernel
theorem dX5_isDigit_19 : decode cX5_isDigit 19 = .ok (.iaload, 1) := by decide +kernel
theorem dX5_isDigit_20 : decode cX5_isDigit 20 = .ok (.bipush 48, 2) := by decide +kernel
theorem dX5_isDigit_22 : decode cX5_isDigit 22 = .ok (.if_icmp .lt 21, 3) := by decide +kernel
theorem dX5_isDigit_25 : decode cX5_isDigit 25 = .ok (.aload_n 0, 1) := by decide +kernel
theorem dX5_isDigit_26 : decode cX5_isDigit 26 = .ok (.getfield 7, 3) := by decide +kernel
theorem dX5_isDigit_29 : decode cX5_isDigit 29 = .ok (.aload_n 0, 1) := by decide +kernel
theorem dX5_isDigit_30 : decode cX5_isDigit 30 = .ok (.getfield 65, 3) := by decide +kernel
theorem dX5_isDigit_33 : decode cX5_isDigit 33 = .ok (.iaload, 1) := by decide +kernel
theorem dX5_isDigit_34 : decode cX5_isDigit 34 = .ok (.bipush 57, 2) := by decide +kernel
theorem dX5_isDigit_36 : decode cX5_isDigit 36 = .ok (.if_icmp .gt 7, 3) := by decide +kernel
theorem dX5_isDigit_39 : decode cX5_isDigit 39 = .ok (.iconst 1, 1) := by decide +kernel
theorem dX5_isDigit_40 : decode cX5_isDigit 40 = .ok (.goto 4, 3) := by decide +kernel
theorem dX5_isDigit_43 : decode cX5_isDigit 43 = .ok (.iconst 0, 1) := by decide +kernel
theorem dX5_isDigit_44 : decode cX5_isDigit 44 = .ok (.ireturn, 1) := by decide +kernel
set_option maxHeartbeats 4000000 in
set_option maxRecDepth 100000 in
theorem lp_mon {p : Program} {l : Launch} {e : Env} {s : State} {m : MethodId} {below : List Frame} {meth : Method} {c : Code} (dC : Nat → ClassId) (dI : Nat → Nat → Nat) (st : Nat) {A : Nat → Prop} (q : Nat) (th : Int32) (tx : Nat) (mz : Nat) (fl : Int32) (it : Bool) (al : Int64) (pt : Nat) (dg : Nat) (ot : Nat) (wr : Nat) (kz : Nat) (ka : Nat) (kd : Nat) (kp : Nat) (ma : Nat) (wg : Bool) (T : Int32) (hY : (yrL (mDay al) 10100 (mDay al / 366)).isSome = true) (Cx : kc_Cx yX5_monthNow cX5_monthNow (some .int) 3 wsX5_monthNow p s m ([.ref q] : List Value).toArray meth c) (hA : ∀ q, s.heap.size ≤ q → A q) (hG : kg st A s) (hK : va_K (dC, dI) kcl [] s) :
    ∀ (N : Nat) (lf : Int32) (n : Int32) (hT : moL (yrF (mDay al)) N lf n = some T) (ls : Array Slot), va_P (dC, dI) kcl [(q, .inr (5, [.int th, .ref tx, .int (nI mz), .int fl, .int (bI it), .long al, .ref pt, .int (nI dg), .ref ot, .int (nI wr), .int (nI kz), .ref ka, .ref kd, .ref kp, .int (nI ma), .int (bI wg)]))] s.heap → va_D A [(q, .inr (5, [.int th, .ref tx, .int (nI mz), .int fl, .int (bI it), .long al, .ref pt, .int (nI dg), .ref ot, .int (nI wr), .int (nI kz), .ref ka, .ref kd, .ref kp, .int (nI ma), .int (bI wg)]))] → va_S A s.heap s.heap [] → lv_has ls 3 [(0, .ref q), (1, .int lf), (2, .int n)] → W p l e ({ frames := 2, cells := 0, slots := 0, locals := 41 }) s m ([.ref q] : List Value).toArray below meth c s.heap [] 0 0 (MQ below (vp_Si (fun r => r = T)) ([.ref q] : List Value).toArray s 0 0 (fun _ => False)) (F0 m 18 ls []) := by
  obtain ⟨hx, hb, hr, hml, hown, hts, hlocks, hnm⟩ := Cx
  intro N
  induction N with
  | zero =>
    intro lf n hT ls hP hD hS hl
    refine lv_iload_n hx hb dX5_monthNow_18 rfl (lv_at hl 1 rfl) ?_
    refine lv_aload_n hx hb dX5_monthNow_19 rfl (lv_at hl 0 rfl) ?_
    have hPc := hP.sub (ws' := [(q, .inr (5, [.int th, .ref tx, .int (nI mz), .int fl, .int (bI it), .long al, .ref pt, .int (nI dg), .ref ot, .int (nI wr), .int (nI kz), .ref ka, .ref kd, .ref kp, .int (nI ma), .int (bI wg)]))]) [0] rfl
    have hDc := hD.sub (ws' := [(q, .inr (5, [.int th, .ref tx, .int (nI mz), .int fl, .int (bI it), .long al, .ref pt, .int (nI dg), .ref ot, .int (nI wr), .int (nI kz), .ref ka, .ref kd, .ref kp, .int (nI ma), .int (bI wg)]))]) [0] (by decide) rfl
    have hKc := hK.sub (tys' := []) [] rfl
    have hFc := va_free (wc := [(q, .inr (5, [.int th, .ref tx, .int (nI mz), .int fl, .int (bI it), .long al, .ref pt, .int (nI dg), .ref ot, .int (nI wr), .int (nI kz), .ref ka, .ref kd, .ref kp, .int (nI ma), .int (bI wg)]))]) hD hS hA [0] rfl
    refine kc_callSi (val := mDay al) (va_runV (As := []) (rest := [.int lf]) ⟨hx, hb, hml, hown, hts⟩ (m_dayNow l dC dI st s.heap.size q th tx mz fl it al pt dg ot wr kz ka kd kp ma wg ) (cwV 0 hts (kwV kwm_220 kwm_221 kwm_222 kwm_203 kwm_219) rfl rfl rfl (by decide +kernel) ⟨Nat.le_of_ble_eq_true rfl, Nat.le_of_ble_eq_true rfl⟩) ⟨kc_blind, va_recv hKc hPc (ci := 5) (q0 := 0) rfl rfl, kc_pre hG hS hFc hKc hPc hDc⟩ rfl rfl hl.1 rfl (lv_room (Nat.le_of_ble_eq_true rfl)) dX5_monthNow_20 ⟨Nat.le_of_ble_eq_true rfl, Nat.le_of_ble_eq_true rfl⟩) ?_
    have hPc := hP.sub (ws' := []) [] rfl
    have hDc := hD.sub (ws' := []) [] (by decide) rfl
    have hKc := hK.sub (tys' := []) [] rfl
    have hFc := va_free (wc := []) hD hS hA [] rfl
    refine kc_callSi (val := yrF (mDay al)) (va_runS (As := [.int (mDay al)]) (rest := [.int lf]) ⟨hx, hb, hml, hown, hts⟩ (m_yearOf l dC dI st s.heap.size (mDay al) hY) (va_cwS 1 hts (kwS kwm_224 kwm_225 kwm_203 kwm_223) rfl rfl rfl (by decide +kernel) ⟨Nat.le_of_ble_eq_true rfl, Nat.le_of_ble_eq_true rfl⟩) ⟨kc_blind, kc_pre hG hS hFc hKc hPc hDc⟩ rfl rfl hl.1 rfl (lv_room (Nat.le_of_ble_eq_true rfl)) dX5_monthNow_23 ⟨Nat.le_of_ble_eq_true rfl, Nat.le_of_ble_eq_true rfl⟩) ?_
    refine lv_iload_n hx hb dX5_monthNow_26 rfl (lv_at hl 2 rfl) ?_
    have hPc := hP.sub (ws' := []) [] rfl
    have hDc := hD.sub (ws' := []) [] (by decide) rfl
    have hKc := hK.sub (tys' := []) [] rfl
    have hFc := va_free (wc := []) hD hS hA [] rfl
    refine kc_callSi (val := mDays (yrF (mDay al)) n) (va_runS (As := [.int (yrF (mDay al)), .int n]) (rest := [.int lf]) ⟨hx, hb, hml, hown, hts⟩ (m_daysOf l dC dI st s.heap.size (yrF (mDay al)) n ) (va_cwS 2 hts (kwS kwm_212 kwm_213 kwm_203 kwm_211) rfl rfl rfl (by decide +kernel) ⟨Nat.le_of_ble_eq_true rfl, Nat.le_of_ble_eq_true rfl⟩) ⟨kc_blind, kc_pre hG hS hFc hKc hPc hDc⟩ rfl rfl hl.1 rfl (lv_room (Nat.le_of_ble_eq_true rfl)) dX5_monthNow_27 ⟨Nat.le_of_ble_eq_true rfl, Nat.le_of_ble_eq_true rfl⟩) ?_
    refine lv_icmp_lt (tgt := 53) hx hb dX5_monthNow_30 (by decide) (fun c_30 => ?_) (fun c_30 => ?_)
    · exact absurd hT (by simp [moL])
    · exact absurd hT (by simp [moL])
  | succ N ih =>
    intro lf n hT ls hP hD hS hl
    refine lv_iload_n hx hb dX5_monthNow_18 rfl (lv_at hl 1 rfl) ?_
    refine lv_aload_n hx hb dX5_monthNow_19 rfl (lv_at hl 0 rfl) ?_
    have hPc := hP.sub (ws' := [(q, .inr (5, [.int th, .ref tx, .int (nI mz), .int fl, .int (bI it), .long al, .ref pt, .int (nI dg), .ref ot, .int (nI wr), .int (nI kz), .ref ka, .ref kd, .ref kp, .int (nI ma), .int (bI wg)]))]) [0] rfl
    have hDc := hD.sub (ws' := [(q, .inr (5, [.int th, .ref tx, .int (nI mz), .int fl, .int (bI it), .long al, .ref pt, .int (nI dg), .ref ot, .int (nI wr), .int (nI kz), .ref ka, .ref kd, .ref kp, .int (nI ma), .int (bI wg)]))]) [0] (by decide) rfl
    have hKc := hK.sub (tys' := []) [] rfl
    have hFc := va_free (wc := [(q, .inr (5, [.int th, .ref tx, .int (nI mz), .int fl, .int (bI it), .long al, .ref pt, .int (nI dg), .ref ot, .int (nI wr), .int (nI kz), .ref ka, .ref kd, .ref kp, .int (nI ma), .int (bI wg)]))]) hD hS hA [0] rfl
    refine kc_callSi (val := mDay al) (va_runV (As := []) (rest := [.int lf]) ⟨hx, hb, hml, hown, hts⟩ (m_dayNow l dC dI st s.heap.size q th tx mz fl it al pt dg ot wr kz ka kd kp ma wg ) (cwV 0 hts (kwV kwm_220 kwm_221 kwm_222 kwm_203 kwm_219) rfl rfl rfl (by decide +kernel) ⟨Nat.le_of_ble_eq_true rfl, Nat.le_of_ble_eq_true rfl⟩) ⟨kc_blind, va_recv hKc hPc (ci := 5) (q0 := 0) rfl rfl, kc_pre hG hS hFc hKc hPc hDc⟩ rfl rfl hl.1 rfl (lv_room (Nat.le_of_ble_eq_true rfl)) dX5_monthNow_20 ⟨Nat.le_of_ble_eq_true rfl, Nat.le_of_ble_eq_true rfl⟩) ?_
    have hPc := hP.sub (ws' := []) [] rfl
    have hDc := hD.sub (ws' := []) [] (by decide) rfl
    have hKc := hK.sub (tys' := []) [] rfl
    have hFc := va_free (wc := []) hD hS hA [] rfl
    refine kc_callSi (val := yrF (mDay al)) (va_runS (As := [.int (mDay al)]) (rest := [.int lf]) ⟨hx, hb, hml, hown, hts⟩ (m_yearOf l dC dI st s.heap.size (mDay al) hY) (va_cwS 1 hts (kwS kwm_224 kwm_225 kwm_203 kwm_223) rfl rfl rfl (by decide +kernel) ⟨Nat.le_of_ble_eq_true rfl, Nat.le_of_ble_eq_true rfl⟩) ⟨kc_blind, kc_pre hG hS hFc hKc hPc hDc⟩ rfl rfl hl.1 rfl (lv_room (Nat.le_of_ble_eq_true rfl)) dX5_monthNow_23 ⟨Nat.le_of_ble_eq_true rfl, Nat.le_of_ble_eq_true rfl⟩) ?_
    refine lv_iload_n hx hb dX5_monthNow_26 rfl (lv_at hl 2 rfl) ?_
    have hPc := hP.sub (ws' := []) [] rfl
    have hDc := hD.sub (ws' := []) [] (by decide) rfl
    have hKc := hK.sub (tys' := []) [] rfl
    have hFc := va_free (wc := []) hD hS hA [] rfl
    refine kc_callSi (val := mDays (yrF (mDay al)) n) (va_runS (As := [.int (yrF (mDay al)), .int n]) (rest := [.int lf]) ⟨hx, hb, hml, hown, hts⟩ (m_daysOf l dC dI st s.heap.size (yrF (mDay al)) n ) (va_cwS 2 hts (kwS kwm_212 kwm_213 kwm_203 kwm_211) rfl rfl rfl (by decide +kernel) ⟨Nat.le_of_ble_eq_true rfl, Nat.le_of_ble_eq_true rfl⟩) ⟨kc_blind, kc_pre hG hS hFc hKc hPc hDc⟩ rfl rfl hl.1 rfl (lv_room (Nat.le_of_ble_eq_true rfl)) dX5_monthNow_27 ⟨Nat.le_of_ble_eq_true rfl, Nat.le_of_ble_eq_true rfl⟩) ?_
    refine lv_icmp_lt (tgt := 53) hx hb dX5_monthNow_30 (by decide) (fun c_30 => ?_) (fun c_30 => ?_)
    · refine lv_iload_n hx hb dX5_monthNow_53 rfl (lv_at hl 2 rfl) ?_
      have h9 : some n = some T := by rw [← hT]; exact (if_pos c_30).symm
      have hT : n = T := Option.some.inj h9
      have hv9 : n = T := by
        try rw [← hT]
        try rfl
      exact kc_Siret hx hb hr hlocks hv9 dX5_monthNow_54
    · refine lv_iload_n hx hb dX5_monthNow_33 rfl (lv_at hl 1 rfl) ?_
      refine lv_aload_n hx hb dX5_monthNow_34 rfl (lv_at hl 0 rfl) ?_
      have hPc := hP.sub (ws' := [(q, .inr (5, [.int th, .ref tx, .int (nI mz), .int fl, .int (bI it), .long al, .ref pt, .int (nI dg), .ref ot, .int (nI wr), .int (nI kz), .ref ka, .ref kd, .ref kp, .int (nI ma), .int (bI wg)]))]) [0] rfl
      have hDc := hD.sub (ws' := [(q, .inr (5, [.int th, .ref tx, .int (nI mz), .int fl, .int (bI it), .long al, .ref pt, .int (nI dg), .ref ot, .int (nI wr), .int (nI kz), .ref ka, .ref kd, .ref kp, .int (nI ma), .int (bI wg)]))]) [0] (by decide) rfl
      have hKc := hK.sub (tys' := []) [] rfl
      have hFc := va_free (wc := [(q, .inr (5, [.int th, .ref tx, .int (nI mz), .int fl, .int (bI it), .long al, .ref pt, .int (nI dg), .ref ot, .int (nI wr), .int (nI kz), .ref ka, .ref kd, .ref kp, .int (nI ma), .int (bI wg)]))]) hD hS hA [0] rfl
      refine kc_callSi (val := mDay al) (va_runV (As := []) (rest := [.int lf]) ⟨hx, hb, hml, hown, hts⟩ (m_dayNow l dC dI st s.heap.size q th tx mz fl it al pt dg ot wr kz ka kd kp ma wg ) (cwV 0 hts (kwV kwm_220 kwm_221 kwm_222 kwm_203 kwm_219) rfl rfl rfl (by decide +kernel) ⟨Nat.le_of_ble_eq_true rfl, Nat.le_of_ble_eq_true rfl⟩) ⟨kc_blind, va_recv hKc hPc (ci := 5) (q0 := 0) rfl rfl, kc_pre hG hS hFc hKc hPc hDc⟩ rfl rfl hl.1 rfl (lv_room (Nat.le_of_ble_eq_true rfl)) dX5_monthNow_35 ⟨Nat.le_of_ble_eq_true rfl, Nat.le_of_ble_eq_true rfl⟩) ?_
      have hPc := hP.sub (ws' := []) [] rfl
      have hDc := hD.sub (ws' := []) [] (by decide) rfl
      have hKc := hK.sub (tys' := []) [] rfl
      have hFc := va_free (wc := []) hD hS hA [] rfl
      refine kc_callSi (val := yrF (mDay al)) (va_runS (As := [.int (mDay al)]) (rest := [.int lf]) ⟨hx, hb, hml, hown, hts⟩ (m_yearOf l dC dI st s.heap.size (mDay al) hY) (va_cwS 1 hts (kwS kwm_224 kwm_225 kwm_203 kwm_223) rfl rfl rfl (by decide +kernel) ⟨Nat.le_of_ble_eq_true rfl, Nat.le_of_ble_eq_true rfl⟩) ⟨kc_blind, kc_pre hG hS hFc hKc hPc hDc⟩ rfl rfl hl.1 rfl (lv_room (Nat.le_of_ble_eq_true rfl)) dX5_monthNow_38 ⟨Nat.le_of_ble_eq_true rfl, Nat.le_of_ble_eq_true rfl⟩) ?_
      refine lv_iload_n hx hb dX5_monthNow_41 rfl (lv_at hl 2 rfl) ?_
      have hPc := hP.sub (ws' := []) [] rfl
      have hDc := hD.sub (ws' := []) [] (by decide) rfl
      have hKc := hK.sub (tys' := []) [] rfl
      have hFc := va_free (wc := []) hD hS hA [] rfl
      refine kc_callSi (val := mDays (yrF (mDay al)) n) (va_runS (As := [.int (yrF (mDay al)), .int n]) (rest := [.int lf]) ⟨hx, hb, hml, hown, hts⟩ (m_daysOf l dC dI st s.heap.size (yrF (mDay al)) n ) (va_cwS 2 hts (kwS kwm_212 kwm_213 kwm_203 kwm_211) rfl rfl rfl (by decide +kernel) ⟨Nat.le_of_ble_eq_true rfl, Nat.le_of_ble_eq_true rfl⟩) ⟨kc_blind, kc_pre hG hS hFc hKc hPc hDc⟩ rfl rfl hl.1 rfl (lv_room (Nat.le_of_ble_eq_true rfl)) dX5_monthNow_42 ⟨Nat.le_of_ble_eq_true rfl, Nat.le_of_ble_eq_true rfl⟩) ?_
      refine lv_isub hx hb dX5_monthNow_45 ?_
      refine lv_istore_n (lv' := [(1, .int (lf - (mDays (yrF (mDay al)) n))), (0, .ref q), (2, .int n)]) hx hb dX5_monthNow_46 rfl hl (by decide) rfl (fun ls hl => ?_)
      refine lv_iinc (v := n + 1) (lv' := [(2, .int (n + 1)), (1, .int (lf - (mDays (yrF (mDay al)) n))), (0, .ref q)]) hx hb dX5_monthNow_47 hl (k := 2) rfl (congrArg (fun z => n + z) (show Int32.ofInt (1) = (1 : Int32) by decide)) (by decide) rfl (fun ls hl => ?_)
      refine lv_goto (tgt := 18) hx hb dX5_monthNow_50 (by decide) ?_
      exact ih _ _ (by rw [← hT]; exact (if_neg c_30).symm) ls hP hD hS (lv_sub hl [2, 1, 0] rfl)
set_option maxHeartbeats 4000000 in
set_option maxRecDepth 100000 in
theorem m_monthNow (l : Launch) (dC : Nat → ClassId) (dI : Nat → Nat → Nat) (st sz : Nat) (q : Nat) (th : Int32) (tx : Nat) (mz : Nat) (fl : Int32) (it : Bool) (al : Int64) (pt : Nat) (dg : Nat) (ot : Nat) (wr : Nat) (kz : Nat) (ka : Nat) (kd : Nat) (kp : Nat) (ma : Nat) (wg : Bool) (hY : (yrL (mDay al) 10100 (mDay al / 366)).isSome = true) (hM : (moL (yrF (mDay al)) 13 (mDay al - mTo (yrF (mDay al))) 1).isSome = true) : Met l yX5_monthNow wsX5_monthNow ({ frames := 2, cells := 0, slots := 0, locals := 41 }) (kc_Pc (dC, dI) kcl st sz [.ref q] [(q, .inr (5, [.int th, .ref tx, .int (nI mz), .int fl, .int (bI it), .long al, .ref pt, .int (nI dg), .ref ot, .int (nI wr), .int (nI kz), .ref ka, .ref kd, .ref kp, .int (nI ma), .int (bI wg)]))] []) (vp_Si (fun r => r = moF al)) 0 0 (fun _ => False) := by
  refine kc_ofS (cc := cX5_monthNow) (maxL := 3) (ret := (some .int)) (by decide) rfl (Nat.le_of_ble_eq_true rfl) ?_
  intro p e s m below meth c A ls Cx hA hG hK hP hD hS hl
  obtain ⟨hx, hb, hr, hml, hown, hts, hlocks, hnm⟩ := id Cx
  have hl : lv_has ls 3 [(0, .ref q)] := hl
  refine lv_aload_n hx hb dX5_monthNow_0 rfl (lv_at hl 0 rfl) ?_
  have hPc := hP.sub (ws' := [(q, .inr (5, [.int th, .ref tx, .int (nI mz), .int fl, .int (bI it), .long al, .ref pt, .int (nI dg), .ref ot, .int (nI wr), .int (nI kz), .ref ka, .ref kd, .ref kp, .int (nI ma), .int (bI wg)]))]) [0] rfl
  have hDc := hD.sub (ws' := [(q, .inr (5, [.int th, .ref tx, .int (nI mz), .int fl, .int (bI it), .long al, .ref pt, .int (nI dg), .ref ot, .int (nI wr), .int (nI kz), .ref ka, .ref kd, .ref kp, .int (nI ma), .int (bI wg)]))]) [0] (by decide) rfl
  have hKc := hK.sub (tys' := []) [] rfl
  have hFc := va_free (wc := [(q, .inr (5, [.int th, .ref tx, .int (nI mz), .int fl, .int (bI it), .long al, .ref pt, .int (nI dg), .ref ot, .int (nI wr), .int (nI kz), .ref ka, .ref kd, .ref kp, .int (nI ma), .int (bI wg)]))]) hD hS hA [0] rfl
  refine kc_callSi (val := mDay al) (va_runV (As := []) (rest := []) ⟨hx, hb, hml, hown, hts⟩ (m_dayNow l dC dI st s.heap.size q th tx mz fl it al pt dg ot wr kz ka kd kp ma wg ) (cwV 0 hts (kwV kwm_220 kwm_221 kwm_222 kwm_203 kwm_219) rfl rfl rfl (by decide +kernel) ⟨Nat.le_of_ble_eq_true rfl, Nat.le_of_ble_eq_true rfl⟩) ⟨kc_blind, va_recv hKc hPc (ci := 5) (q0 := 0) rfl rfl, kc_pre hG hS hFc hKc hPc hDc⟩ rfl rfl hl.1 rfl (lv_room (Nat.le_of_ble_eq_true rfl)) dX5_monthNow_1 ⟨Nat.le_of_ble_eq_true rfl, Nat.le_of_ble_eq_true rfl⟩) ?_
  refine lv_aload_n hx hb dX5_monthNow_4 rfl (lv_at hl 0 rfl) ?_
  have hPc := hP.sub (ws' := [(q, .inr (5, [.int th, .ref tx, .int (nI mz), .int fl, .int (bI it), .long al, .ref pt, .int (nI dg), .ref ot, .int (nI wr), .int (nI kz), .ref ka, .ref kd, .ref kp, .int (nI ma), .int (bI wg)]))]) [0] rfl
  have hDc := hD.sub (ws' := [(q, .inr (5, [.int th, .ref tx, .int (nI mz), .int fl, .int (bI it), .long al, .ref pt, .int (nI dg), .ref ot, .int (nI wr), .int (nI kz), .ref ka, .ref kd, .ref kp, .int (nI ma), .int (bI wg)]))]) [0] (by decide) rfl
  have hKc := hK.sub (tys' := []) [] rfl
  have hFc := va_free (wc := [(q, .inr (5, [.int th, .ref tx, .int (nI mz), .int fl, .int (bI it), .long al, .ref pt, .int (nI dg), .ref ot, .int (nI wr), .int (nI kz), .ref ka, .ref kd, .ref kp, .int (nI ma), .int (bI wg)]))]) hD hS hA [0] rfl
  refine kc_callSi (val := mDay al) (va_runV (As := []) (rest := [.int (mDay al)]) ⟨hx, hb, hml, hown, hts⟩ (m_dayNow l dC dI st s.heap.size q th tx mz fl it al pt dg ot wr kz ka kd kp ma wg ) (cwV 0 hts (kwV kwm_220 kwm_221 kwm_222 kwm_203 kwm_219) rfl rfl rfl (by decide +kernel) ⟨Nat.le_of_ble_eq_true rfl, Nat.le_of_ble_eq_true rfl⟩) ⟨kc_blind, va_recv hKc hPc (ci := 5) (q0 := 0) rfl rfl, kc_pre hG hS hFc hKc hPc hDc⟩ rfl rfl hl.1 rfl (lv_room (Nat.le_of_ble_eq_true rfl)) dX5_monthNow_5 ⟨Nat.le_of_ble_eq_true rfl, Nat.le_of_ble_eq_true rfl⟩) ?_
  have hPc := hP.sub (ws' := []) [] rfl
  have hDc := hD.sub (ws' := []) [] (by decide) rfl
  have hKc := hK.sub (tys' := []) [] rfl
  have hFc := va_free (wc := []) hD hS hA [] rfl
  refine kc_callSi (val := yrF (mDay al)) (va_runS (As := [.int (mDay al)]) (rest := [.int (mDay al)]) ⟨hx, hb, hml, hown, hts⟩ (m_yearOf l dC dI st s.heap.size (mDay al) hY) (va_cwS 1 hts (kwS kwm_224 kwm_225 kwm_203 kwm_223) rfl rfl rfl (by decide +kernel) ⟨Nat.le_of_ble_eq_true rfl, Nat.le_of_ble_eq_true rfl⟩) ⟨kc_blind, kc_pre hG hS hFc hKc hPc hDc⟩ rfl rfl hl.1 rfl (lv_room (Nat.le_of_ble_eq_true rfl)) dX5_monthNow_8 ⟨Nat.le_of_ble_eq_true rfl, Nat.le_of_ble_eq_true rfl⟩) ?_
  have hPc := hP.sub (ws' := []) [] rfl
  have hDc := hD.sub (ws' := []) [] (by decide) rfl
  have hKc := hK.sub (tys' := []) [] rfl
  have hFc := va_free (wc := []) hD hS hA [] rfl
  refine kc_callSi (val := mTo (yrF (mDay al))) (va_runS (As := [.int (yrF (mDay al))]) (rest := [.int (mDay al)]) ⟨hx, hb, hml, hown, hts⟩ (m_daysTo l dC dI st s.heap.size (yrF (mDay al)) ) (va_cwS 1 hts (kwS kwm_215 kwm_216 kwm_203 kwm_214) rfl rfl rfl (by decide +kernel) ⟨Nat.le_of_ble_eq_true rfl, Nat.le_of_ble_eq_true rfl⟩) ⟨kc_blind, kc_pre hG hS hFc hKc hPc hDc⟩ rfl rfl hl.1 rfl (lv_room (Nat.le_of_ble_eq_true rfl)) dX5_monthNow_11 ⟨Nat.le_of_ble_eq_true rfl, Nat.le_of_ble_eq_true rfl⟩) ?_
  refine lv_isub hx hb dX5_monthNow_14 ?_
  refine lv_istore_n (lv' := [(1, .int ((mDay al) - (mTo (yrF (mDay al))))), (0, .ref q)]) hx hb dX5_monthNow_15 rfl hl (by decide) rfl (fun ls hl => ?_)
  refine lv_iconst (v := 1) hx hb dX5_monthNow_16 (by decide) ?_
  refine lv_istore_n (lv' := [(2, .int 1), (1, .int ((mDay al) - (mTo (yrF (mDay al))))), (0, .ref q)]) hx hb dX5_monthNow_17 rfl hl (by decide) rfl (fun ls hl => ?_)
  exact lp_mon dC dI st q th tx mz fl it al pt dg ot wr kz ka kd kp ma wg (moF al) hY Cx hA hG hK 13 _ 1 (moF_eq hM) ls hP hD hS (lv_sub hl [2, 1, 0] rfl)
def mDig (X : Nat → Int32) (mz ma : Nat) : Bool :=
  if (nI mz) ≤ (nI ma) then
    false
  else
    if (X ma) < 48 then
      false
    else
      if 57 < (X ma) then
        false
      else
        true
set_option maxHeartbeats 4000000 in
set_option maxRecDepth 100000 in
theorem m_isDigit (l : Launch) (dC : Nat → ClassId) (dI : Nat → Nat → Nat) (st sz : Nat) (q : Nat) (th : Int32) (tx : Nat) (mz : Nat) (fl : Int32) (it : Bool) (al : Int64) (pt : Nat) (dg : Nat) (ot : Nat) (wr : Nat) (kz : Nat) (ka : Nat) (kd : Nat) (kp : Nat) (ma : Nat) (wg : Bool) (c1 : ClassId) (X : Nat → Int32) (hz : mz ≤ 242) (ha : ma ≤ 900) : Met l yX5_isDigit wsX5_isDigit ({ frames := 0, cells := 0, slots := 0, locals := 0 }) (kc_Pc (dC, dI) kcl st sz [.ref q] [(q, .inr (5, [.int th, .ref tx, .int (nI mz), .int fl, .int (bI it), .long al, .ref pt, .int (nI dg), .ref ot, .int (nI wr), .int (nI kz), .ref ka, .ref kd, .ref kp, .int (nI ma), .int (bI wg)])), (tx, .inl (c1, 256, .inl X))] [(c1, .int)]) (vp_Si (fun r => r = bI (mDig X mz ma))) 0 0 (fun _ => False) := by
  refine kc_ofS (cc := cX5_isDigit) (maxL := 1) (ret := (some .boolean)) (by decide) rfl (Nat.le_of_ble_eq_true rfl) ?_
  intro p e s m below meth c A ls Cx hA hG hK hP hD hS hl
  obtain ⟨hx, hb, hr, hml, hown, hts, hlocks, hnm⟩ := id Cx
  have hl : lv_has ls 1 [(0, .ref q)] := hl
  refine lv_aload_n hx hb dX5_isDigit_0 rfl (lv_at hl 0 rfl) ?_
  refine va_get (D := (dC, dI)) (ci := 5) (v := .int (nI ma)) (C := RX5) (T := TX5) (N := 16) hx hb hts kin_5 hown hK hP 0 rfl rfl 14 (by decide) (hts _ (kcm kwm_226)) (fun _ h9 => h9) rfl dX5_isDigit_1 ?_
  refine lv_aload_n hx hb dX5_isDigit_4 rfl (lv_at hl 0 rfl) ?_
  refine va_get (D := (dC, dI)) (ci := 5) (v := .int (nI mz)) (C := RX5) (T := TX5) (N := 16) hx hb hts kin_5 hown hK hP 0 rfl rfl 2 (by decide) (hts _ (kcm kwm_206)) (fun _ h9 => h9) rfl dX5_isDigit_5 ?_
  refine lv_icmp_ge (tgt := 43) hx hb dX5_isDigit_8 (by decide) (fun c_8 => ?_) (fun c_8 => ?_)
  · refine lv_iconst (v := 0) hx hb dX5_isDigit_43 (by decide) ?_
    have hF9 : mDig X mz ma = false := by
      first | (simp only [mDig, if_pos c_8]; done) | rfl
    have hv9 : (0 : Int32) = bI (mDig X mz ma) := by
      try rw [hF9]
      try rfl
    exact kc_Szret hx hb hr hlocks hv9 (bI_nar hv9) dX5_isDigit_44
  · refine lv_aload_n hx hb dX5_isDigit_11 rfl (lv_at hl 0 rfl) ?_
    refine va_get (D := (dC, dI)) (ci := 5) (v := .ref tx) (C := RX5) (T := TX5) (N := 16) hx hb hts kin_5 hown hK hP 0 rfl rfl 1 (by decide) (hts _ (kcm kwm_205)) (fun _ h9 => h9) rfl dX5_isDigit_12 ?_
    refine lv_aload_n hx hb dX5_isDigit_15 rfl (lv_at hl 0 rfl) ?_
    refine va_get (D := (dC, dI)) (ci := 5) (v := .int (nI ma)) (C := RX5) (T := TX5) (N := 16) hx hb hts kin_5 hown hK hP 0 rfl rfl 14 (by decide) (hts _ (kcm kwm_226)) (fun _ h9 => h9) rfl dX5_isDigit_16 ?_
    refine va_iald hx hb hK hP 1 0 rfl rfl (vp_in_nI (Nat.lt_of_lt_of_le (kb_lt c_8 (by omega)) (by omega)) (by decide)) dX5_isDigit_19 ?_
    rw [show (nI ma).toNatClampNeg = ma from nI_clamp (by omega)]
    refine lv_bipush (v := 48) hx hb dX5_isDigit_20 (by decide) ?_
    refine lv_icmp_lt (tgt := 43) hx hb dX5_isDigit_22 (by decide) (fun c_22 => ?_) (fun c_22 => ?_)
    · refine lv_iconst (v := 0) hx hb dX5_isDigit_43 (by decide) ?_
      have hF9 : mDig X mz ma = false := by
        first | (simp only [mDig, if_neg c_8, if_pos c_22]; done) | rfl
      have hv9 : (0 : Int32) = bI (mDig X mz ma) := by
        try rw [hF9]
        try rfl
      exact kc_Szret hx hb hr hlocks hv9 (bI_nar hv9) dX5_isDigit_44
    · refine lv_aload_n hx hb dX5_isDigit_25 rfl (lv_at hl 0 rfl) ?_
      refine va_get (D := (dC, dI)) (ci := 5) (v := .ref tx) (C := RX5) (T := TX5) (N := 16) hx hb hts kin_5 hown hK hP 0 rfl rfl 1 (by decide) (hts _ (kcm kwm_205)) (fun _ h9 => h9) rfl dX5_isDigit_26 ?_
      refine lv_aload_n hx hb dX5_isDigit_29 rfl (lv_at hl 0 rfl) ?_
      refine va_get (D := (dC, dI)) (ci := 5) (v := .int (nI ma)) (C := RX5) (T := TX5) (N := 16) hx hb hts kin_5 hown hK hP 0 rfl rfl 14 (by decide) (hts _ (kcm kwm_226)) (fun _ h9 => h9) rfl dX5_isDigit_30 ?_
      refine va_iald hx hb hK hP 1 0 rfl rfl (vp_in_nI (Nat.lt_of_lt_of_le (kb_lt c_8 (by omega)) (by omega)) (by decide)) dX5_isDigit_33 ?_
      rw [show (nI ma).toNatClampNeg = ma from nI_clamp (by omega)]
      refine lv_bipush (v := 57) hx hb dX5_isDigit_34 (by decide) ?_
      refine lv_icmp_gt (tgt := 43) hx hb dX5_isDigit_36 (by decide) (fun c_36 => ?_) (fun c_36 => ?_)
      · refine lv_iconst (v := 0) hx hb dX5_isDigit_43 (by decide) ?_
        have hF9 : mDig X mz ma = false := by
          first | (simp only [mDig, if_neg c_8, if_neg c_22, if_pos c_36]; done) | rfl
        have hv9 : (0 : Int32) = bI (mDig X mz ma) := by
          try rw [hF9]
          try rfl
        exact kc_Szret hx hb hr hlocks hv9 (bI_nar hv9) dX5_isDigit_44
      · refine lv_iconst (v := 1) hx hb dX5_isDigit_39 (by decide) ?_
        refine lv_goto (tgt := 44) hx hb dX5_isDigit_40 (by decide) ?_
        have hF9 : mDig X mz ma = true := by
          first | (simp only [mDig, if_neg c_8, if_neg c_22, if_neg c_36]; done) | rfl
        have hv9 : (1 : Int32) = bI (mDig X mz ma) := by
          try rw [hF9]
          try rfl
        exact kc_Szret hx hb hr hlocks hv9 (bI_nar hv9) dX5_isDigit_44
