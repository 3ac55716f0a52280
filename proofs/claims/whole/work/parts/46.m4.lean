abbrev cX5_number : ByteArray := prog_7_method_14_code
def yX5_number : MethodName := ⟨RX5, "number", "(I)I"⟩
abbrev cX5_two : ByteArray := prog_7_method_15_code
def yX5_two : MethodName := ⟨RX5, "two", "(II)I"⟩
abbrev cX5_yearOfText : ByteArray := prog_7_method_16_code
def yX5_yearOfText : MethodName := ⟨RX5, "yearOfText", "(I)I"⟩
abbrev wsX5_number : List Cond := .code yX5_number cX5_number 4 (some .int) :: kw
abbrev wsX5_two : List Cond := .code yX5_two cX5_two 4 (some .int) :: kw
abbrev wsX5_yearOfText : List Cond := .code yX5_yearOfText cX5_yearOfText 3 (some .int) :: kw
theorem kwm_227 : (.code yX5_isDigit cX5_isDigit 1 (some .boolean) : Cond) ∈ kw := kw_in (i := 613) (by decide +kernel) (by decide +kernel)
theorem kwm_228 : (.methodLink RX5 72 yX5_isDigit : Cond) ∈ kw := kw_in (i := 610) (by decide +kernel) (by decide +kernel)
theorem kwm_229 : (.instanceMethod yX5_isDigit : Cond) ∈ kw := kw_in (i := 612) (by decide +kernel) (by decide +kernel)
theorem kwm_230 : (.selects RX5 yX5_isDigit yX5_isDigit : Cond) ∈ kw := kw_in (i := 19) (by decide +kernel) (by decide +kernel)
theorem kwm_231 : (.code yX5_number cX5_number 4 (some .int) : Cond) ∈ kw := kw_in (i := 609) (by decide +kernel) (by decide +kernel)
theorem kwm_232 : (.methodLink RX5 76 yX5_number : Cond) ∈ kw := kw_in (i := 606) (by decide +kernel) (by decide +kernel)
theorem kwm_233 : (.instanceMethod yX5_number : Cond) ∈ kw := kw_in (i := 608) (by decide +kernel) (by decide +kernel)
theorem kwm_234 : (.selects RX5 yX5_number yX5_number : Cond) ∈ kw := kw_in (i := 18) (by decide +kernel) (by decide +kernel)
theorem kwm_235 : (.fieldLink RX5 68 "ClockTextsModel" "wrong" "Z" : Cond) ∈ kw := kw_in (i := 544) (by decide +kernel) (by decide +kernel)
theorem dX5_number_0 : decode cX5_number 0 = .ok (.iconst 0, 1) := by decide +kernel
theorem dX5_number_1 : decode cX5_number 1 = .ok (.istore_n 2, 1) := by decide +kernel
theorem dX5_number_2 : decode cX5_number 2 = .ok (.iconst 0, 1) := by decide +kernel
theorem dX5_number_3 : decode cX5_number 3 = .ok (.istore_n 3, 1) := by decide +kernel
theorem dX5_number_4 : decode cX5_number 4 = .ok (.iload_n 3, 1) := by decide +kernel
theorem dX5_number_5 : decode cX5_number 5 = .ok (.iload_n 1, 1) := by decide +kernel
theorem dX5_number_6 : decode cX5_number 6 = .ok (.if_icmp .ge 69, 3) := by decide +kernel
theorem dX5_number_9 : decode cX5_number 9 = .ok (.aload_n 0, 1) := by decide +kernel
theorem dX5_number_10 : decode cX5_number 10 = .ok (.aload_n 0, 1) := by decide +kernel
theorem dX5_number_11 : decode cX5_number 11 = .ok (.getfield 68, 3) := by decide +kernel
theorem dX5_number_14 : decode cX5_number 14 = .ok (.ifCond .ne 10, 3) := by decide +kernel
theorem dX5_number_17 : decode cX5_number 17 = .ok (.aload_n 0, 1) := by decide +kernel
theorem dX5_number_18 : decode cX5_number 18 = .ok (.invokevirtual 72, 3) := by decide +kernel
theorem dX5_number_21 : decode cX5_number 21 = .ok (.ifCond .ne 7, 3) := by decide +kernel
theorem dX5_number_24 : decode cX5_number 24 = .ok (.iconst 1, 1) := by decide +kernel
theorem dX5_number_25 : decode cX5_number 25 = .ok (.goto 4, 3) := by decide +kernel
theorem dX5_number_28 : decode cX5_number 28 = .ok (.iconst 0, 1) := by decide +kernel
theorem dX5_number_29 : decode cX5_number 29 = .ok (.putfield 68, 3) := by decide +kernel
theorem dX5_number_32 : decode cX5_number 32 = .ok (.aload_n 0, 1) := by decide +kernel
theorem dX5_number_33 : decode cX5_number 33 = .ok (.getfield 68, 3) := by decide +kernel
theorem dX5_number_36 : decode cX5_number 36 = .ok (.ifCond .eq 5, 3) := by decide +kernel
theorem dX5_number_39 : decode cX5_number 39 = .ok (.iconst 0, 1) := by decide +kernel
theorem dX5_number_40 : decode cX5_number 40 = .ok (.ireturn, 1) := by decide +kernel
theorem dX5_number_41 : decode cX5_number 41 = .ok (.bipush 10, 2) := by decide +kernel
theorem dX5_number_43 : decode cX5_number 43 = .ok (.iload_n 2, 1) := by decide +kernel
theorem dX5_number_44 : decode cX5_number 44 = .ok (.imul, 1) := by decide +kernel
theorem dX5_number_45 : decode cX5_number 45 = .ok (.aload_n 0, 1) := by decide +kernel
theorem dX5_number_46 : decode cX5_number 46 = .ok (.getfield 7, 3) := by decide +kernel
theorem dX5_number_49 : decode cX5_number 49 = .ok (.aload_n 0, 1) := by decide +kernel
theorem dX5_number_50 : decode cX5_number 50 = .ok (.getfield 65, 3) := by decide +kernel
theorem dX5_number_53 : decode cX5_number 53 = .ok (.iaload, 1) := by decide +kernel
theorem dX5_number_54 : decode cX5_number 54 = .ok (.iadd, 1) := by decide +kernel
theorem dX5_number_55 : decode cX5_number 55 = .ok (.bipush 48, 2) := by decide +kernel
theorem dX5_number_57 : decode cX5_number 57 = .ok (.isub, 1) := by decide +kernel
theorem dX5_number_58 : decode cX5_number 58 = .ok (.istore_n 2, 1) := by decide +kernel
theorem dX5_number_59 : decode cX5_number 59 = .ok (.aload_n 0, 1) := by decide +kernel
theorem dX5_number_60 : decode cX5_number 60 = .ok (.dup, 1) := by decide +kernel
theorem dX5_number_61 : decode cX5_number 61 = .ok (.getfield 65, 3) := by decide +kernel
theorem dX5_number_64 : decode cX5_number 64 = .ok (.iconst 1, 1) := by decide +kernel
theorem dX5_number_65 : decode cX5_number 65 = .ok (.iadd, 1) := by decide +kernel
theorem dX5_number_66 : decode cX5_number 66 = .ok (.putfield 65, 3) := by decide +kernel
theorem dX5_number_69 : decode cX5_number 69 = .ok (.iinc 3 1, 3) := by decide +kernel
theorem dX5_number_72 : decode cX5_number 72 = .ok (.goto (-68), 3) := by decide +kernel
theorem dX5_number_75 : decode cX5_number 75 = .ok (.iload_n 2, 1) := by decide +kernel
theorem dX5_number_76 : decode cX5_number 76 = .ok (.ireturn, 1) := by decide +kernel
theorem dX5_two_0 : decode cX5_two 0 = .ok (.aload_n 0, 1) := by decide +kernel
theorem dX5_two_1 : decode cX5_two 1 = .ok (.iconst 2, 1) := by decide +kernel
theorem dX5_two_2 : decode cX5_two 2 = .ok (.invokevirtual 76, 3) := by decide +kernel
theorem dX5_two_5 : decode cX5_two 5 = .ok (.istore_n 3, 1) := by decide +kernel
theorem dX5_two_6 : decode cX5_two 6 = .ok (.aload_n 0, 1) := by decide +kernel
theorem dX5_two_7 : decode cX5_two 7 = .ok (.aload_n 0, 1) := by decide +kernel
theorem dX5_two_8 : decode cX5_two 8 = .ok (.getfield 68, 3) := by decide +kernel
theorem dX5_two_11 : decode cX5_two 11 = .ok (.ifCond .ne 13, 3) := by decide +kernel
theorem dX5_two_14 : decode cX5_two 14 = .ok (.iload_n 3, 1) := by decide +kernel
theorem dX5_two_15 : decode cX5_two 15 = .ok (.iload_n 1, 1) := by decide +kernel
theorem dX5_two_16 : decode cX5_two 16 = .ok (.if_icmp .lt 8, 3) := by decide +kernel
theorem dX5_two_19 : decode cX5_two 19 = .ok (.iload_n 3, 1) := by decide +kernel
theorem dX5_two_20 : decode cX5_two 20 = .ok (.iload_n 2, 1) := by decide +kernel
theorem dX5_two_21 : decode cX5_two 21 = .ok (.if_icmp .le 7, 3) := by decide +kernel
theorem dX5_two_24 : decode cX5_two 24 = .ok (.iconst 1, 1) := by decide +kernel
theorem dX5_two_25 : decode cX5_two 25 = .ok (.goto 4, 3) := by decide +kernel
theorem dX5_two_28 : decode cX5_two 28 = .ok (.iconst 0, 1) := by decide +kernel
theorem dX5_two_29 : decode cX5_two 29 = .ok (.putfield 68, 3) := by decide +kernel
theorem dX5_two_32 : decode cX5_two 32 = .ok (.aload_n 0, 1) := by decide +kernel
theorem dX5_two_33 : decode cX5_two 33 = .ok (.getfield 68, 3) := by decide +kernel
theorem dX5_two_36 : decode cX5_two 36 = .ok (.ifCond .eq 7, 3) := by decide +kernel
theorem dX5_two_39 : decode cX5_two 39 = .ok (.iload_n 1, 1) := by decide +kernel
theorem dX5_two_40 : decode cX5_two 40 = .ok (.goto 4, 3) := by decide +kernel
theorem dX5_two_43 : decode cX5_two 43 = .ok (.iload_n 3, 1) := by decide +kernel
theorem dX5_two_44 : decode cX5_two 44 = .ok (.ireturn, 1) := by decide +kernel
theorem dX5_yearOfText_0 : decode cX5_yearOfText 0 = .ok (.iload_n 1, 1) := by decide +kernel
theorem dX5_yearOfText_1 : decode cX5_yearOfText 1 = .ok (.ifCond .eq 9, 3) := by decide +kernel
theorem dX5_yearOfText_4 : decode cX5_yearOfText 4 = .ok (.aload_n 0, 1) := by decide +kernel
theorem dX5_yearOfText_5 : decode cX5_yearOfText 5 = .ok (.iconst 4, 1) := by decide +kernel
theorem dX5_yearOfText_6 : decode cX5_yearOfText 6 = .ok (.invokevirtual 76, 3) := by decide +kernel
theorem dX5_yearOfText_9 : decode cX5_yearOfText 9 = .ok (.ireturn, 1) := by decide +kernel
theorem dX5_yearOfText_10 : decode cX5_yearOfText 10 = .ok (.aload_n 0, 1) := by decide +kernel
theorem dX5_yearOfText_11 : decode cX5_yearOfText 11 = .ok (.iconst 2, 1) := by decide +kernel
theorem dX5_yearOfText_12 : decode cX5_yearOfText 12 = .ok (.invokevirtual 76, 3) := by decide +kernel
theorem dX5_yearOfText_15 : decode cX5_yearOfText 15 = .ok (.istore_n 2, 1) := by decide +kernel
theorem dX5_yearOfText_16 : decode cX5_yearOfText 16 = .ok (.iload_n 2, 1) := by decide +kernel
theorem dX5_yearOfText_17 : decode cX5_yearOfText 17 = .ok (.bipush 50, 2) := by decide +kernel
theorem dX5_yearOfText_19 : decode cX5_yearOfText 19 = .ok (.if_icmp .ge 11, 3) := by decide +kernel
theorem dX5_yearOfText_22 : decode cX5_yearOfText 22 = .ok (.sipush 2000, 3) := by decide +kernel
theorem dX5_yearOfText_25 : decode cX5_yearOfText 25 = .ok (.iload_n 2, 1) := by decide +kernel
theorem dX5_yearOfText_26 : decode cX5_yearOfText 26 = .ok (.iadd, 1) := by decide +kernel
theorem dX5_yearOfText_27 : decode cX5_yearOfText 27 = .ok (.goto 8, 3) := by decide +kernel
theorem dX5_yearOfText_30 : decode cX5_yearOfText 30 = .ok (.sipush 1900, 3) := by decide +kernel
theorem dX5_yearOfText_33 : decode cX5_yearOfText 33 = .ok (.iload_n 2, 1) := by decide +kernel
theorem dX5_yearOfText_34 : decode cX5_yearOfText 34 = .ok (.iadd, 1) := by decide +kernel
theorem dX5_yearOfText_35 : decode cX5_yearOfText 35 = .ok (.ireturn, 1) := by decide +kernel
set_option maxHeartbeats 4000000 in
set_option maxRecDepth 100000 in
theorem lp_num {p : Program} {l : Launch} {e : Env} {s : State} {m : MethodId} {below : List Frame} {meth : Method} {c : Code} (dC : Nat → ClassId) (dI : Nat → Nat → Nat) (st : Nat) {A : Nat → Prop} (q : Nat) (th : Int32) (tx : Nat) (mz : Nat) (fl : Int32) (it : Bool) (al : Int64) (pt : Nat) (dg : Nat) (ot : Nat) (wr : Nat) (kz : Nat) (ka : Nat) (kd : Nat) (kp : Nat) (c1 : ClassId) (X : Nat → Int32) (nn : Nat) (hz : mz ≤ 242) (hnn : nn ≤ 4) (T : Int32 × Nat × Bool) (Cx : kc_Cx yX5_number cX5_number (some .int) 4 wsX5_number p s m ([.ref q, .int (nI nn)] : List Value).toArray meth c) (hA : ∀ q, s.heap.size ≤ q → A q) (hG : kg st A s) (hK : va_K (dC, dI) kcl [(c1, .int)] s) :
    ∀ (N : Nat) (k : Nat) (ma : Nat) (v : Int32) (wg : Bool) (hk : nn = k + N) (ha : ma + N ≤ 895) (hT : mNumL X mz N v ma wg = T) (H : Heap) (locs : List Loc) (ls : Array Slot), va_P (dC, dI) kcl [(q, .inr (5, [.int th, .ref tx, .int (nI mz), .int fl, .int (bI it), .long al, .ref pt, .int (nI dg), .ref ot, .int (nI wr), .int (nI kz), .ref ka, .ref kd, .ref kp, .int (nI ma), .int (bI wg)])), (tx, .inl (c1, 256, .inl X))] H → va_D A [(q, .inr (5, [.int th, .ref tx, .int (nI mz), .int fl, .int (bI it), .long al, .ref pt, .int (nI dg), .ref ot, .int (nI wr), .int (nI kz), .ref ka, .ref kd, .ref kp, .int (nI ma), .int (bI wg)])), (tx, .inl (c1, 256, .inl X))] → va_S A s.heap H locs → lv_has ls 4 [(0, .ref q), (1, .int (nI nn)), (2, .int v), (3, .int (nI k))] → W p l e ({ frames := 1, cells := 0, slots := 0, locals := 20 }) s m ([.ref q, .int (nI nn)] : List Value).toArray below meth c H locs 0 0 (MQ below (kc_Qi (dC, dI) kcl T.1 [(q, .inr (5, [.int th, .ref tx, .int (nI mz), .int fl, .int (bI it), .long al, .ref pt, .int (nI dg), .ref ot, .int (nI wr), .int (nI kz), .ref ka, .ref kd, .ref kp, .int (nI T.2.1), .int (bI T.2.2)])), (tx, .inl (c1, 256, .inl X))] A) ([.ref q, .int (nI nn)] : List Value).toArray s 0 0 A) (F0 m 4 ls []) := by
  obtain ⟨hx, hb, hr, hml, hown, hts, hlocks, hnm⟩ := Cx
  intro N
  induction N with
  | zero =>
    intro k ma v wg hk ha hT H locs ls hP hD hS hl
    refine lv_iload_n hx hb dX5_number_4 rfl (lv_at hl 3 rfl) ?_
    refine lv_iload_n hx hb dX5_number_5 rfl (lv_at hl 1 rfl) ?_
    refine lv_icmp_ge (tgt := 75) hx hb dX5_number_6 (by decide) (fun c_6 => ?_) (fun c_6 => ?_)
    · refine lv_iload_n hx hb dX5_number_75 rfl (lv_at hl 2 rfl) ?_
      have hP9 : va_P (dC, dI) kcl [(q, .inr (5, [.int th, .ref tx, .int (nI mz), .int fl, .int (bI it), .long al, .ref pt, .int (nI dg), .ref ot, .int (nI wr), .int (nI kz), .ref ka, .ref kd, .ref kp, .int (nI T.2.1), .int (bI T.2.2)])), (tx, .inl (c1, 256, .inl X))] H := by
        try rw [← hT]
        exact hP.sub [0, 1] rfl
      have hD9 : va_D A [(q, .inr (5, [.int th, .ref tx, .int (nI mz), .int fl, .int (bI it), .long al, .ref pt, .int (nI dg), .ref ot, .int (nI wr), .int (nI kz), .ref ka, .ref kd, .ref kp, .int (nI T.2.1), .int (bI T.2.2)])), (tx, .inl (c1, 256, .inl X))] := by
        try rw [← hT]
        exact hD.sub [0, 1] (by decide) rfl
      have hv9 : v = T.1 := by
        try rw [← hT]
        try rfl
      exact kc_iret hx hb hr hlocks hv9 hP9 hD9 hS dX5_number_76
    · exact absurd (nI_le (show nn ≤ k by omega) (by omega)) c_6
  | succ N ih =>
    intro k ma v wg hk ha hT H locs ls hP hD hS hl
    refine lv_iload_n hx hb dX5_number_4 rfl (lv_at hl 3 rfl) ?_
    refine lv_iload_n hx hb dX5_number_5 rfl (lv_at hl 1 rfl) ?_
    refine lv_icmp_ge (tgt := 75) hx hb dX5_number_6 (by decide) (fun c_6 => ?_) (fun c_6 => ?_)
    · exact absurd c_6 (nI_ge (show k < nn by omega) (by omega))
    · refine lv_aload_n hx hb dX5_number_9 rfl (lv_at hl 0 rfl) ?_
      refine lv_aload_n hx hb dX5_number_10 rfl (lv_at hl 0 rfl) ?_
      refine va_get (D := (dC, dI)) (ci := 5) (v := .int (bI wg)) (C := RX5) (T := TX5) (N := 16) hx hb hts kin_5 hown hK hP 0 rfl rfl 15 (by decide) (hts _ (kcm kwm_235)) (fun _ h9 => h9) rfl dX5_number_11 ?_
      refine lv_if_ne (tgt := 24) hx hb dX5_number_14 (by decide) (fun c_14 => ?_) (fun c_14 => ?_)
      · refine lv_iconst (v := 1) hx hb dX5_number_24 (by decide) ?_
        refine lv_goto (tgt := 29) hx hb dX5_number_25 (by decide) ?_
        refine va_put (D := (dC, dI)) (ci := 5) (v := .int 1) (ty := .boolean) (C := RX5) (T := TX5) (N := 16) hx hb hts kin_5 tyX5 tyX5_ok nmX5 hown hK hP hD hS 0 rfl rfl 15 (by decide) (hts _ (kcm kwm_235)) (fun _ h9 => h9) rfl (by decide +kernel) rfl rfl (Nat.le_of_ble_eq_true rfl) dX5_number_29 (fun H locs hP hD hS => ?_)
        have hP : va_P (dC, dI) kcl [(q, .inr (5, [.int th, .ref tx, .int (nI mz), .int fl, .int (bI it), .long al, .ref pt, .int (nI dg), .ref ot, .int (nI wr), .int (nI kz), .ref ka, .ref kd, .ref kp, .int (nI ma), .int (bI true)])), (tx, .inl (c1, 256, .inl X))] H := hP
        have hD : va_D A [(q, .inr (5, [.int th, .ref tx, .int (nI mz), .int fl, .int (bI it), .long al, .ref pt, .int (nI dg), .ref ot, .int (nI wr), .int (nI kz), .ref ka, .ref kd, .ref kp, .int (nI ma), .int (bI true)])), (tx, .inl (c1, 256, .inl X))] := hD
        refine lv_aload_n hx hb dX5_number_32 rfl (lv_at hl 0 rfl) ?_
        refine va_get (D := (dC, dI)) (ci := 5) (v := .int (bI true)) (C := RX5) (T := TX5) (N := 16) hx hb hts kin_5 hown hK hP 0 rfl rfl 15 (by decide) (hts _ (kcm kwm_235)) (fun _ h9 => h9) rfl dX5_number_33 ?_
        refine lv_if_eq (tgt := 41) hx hb dX5_number_36 (by decide) (fun c_36 => ?_) (fun c_36 => ?_)
        · exact absurd c_36 (by decide)
        · refine lv_iconst (v := 0) hx hb dX5_number_39 (by decide) ?_
          have hT : ((0 : Int32), ma, true) = T := by rw [← hT]; exact (if_neg c_14).symm
          have hP9 : va_P (dC, dI) kcl [(q, .inr (5, [.int th, .ref tx, .int (nI mz), .int fl, .int (bI it), .long al, .ref pt, .int (nI dg), .ref ot, .int (nI wr), .int (nI kz), .ref ka, .ref kd, .ref kp, .int (nI T.2.1), .int (bI T.2.2)])), (tx, .inl (c1, 256, .inl X))] H := by
            try rw [← hT]
            exact hP.sub [0, 1] rfl
          have hD9 : va_D A [(q, .inr (5, [.int th, .ref tx, .int (nI mz), .int fl, .int (bI it), .long al, .ref pt, .int (nI dg), .ref ot, .int (nI wr), .int (nI kz), .ref ka, .ref kd, .ref kp, .int (nI T.2.1), .int (bI T.2.2)])), (tx, .inl (c1, 256, .inl X))] := by
            try rw [← hT]
            exact hD.sub [0, 1] (by decide) rfl
          have hv9 : (0 : Int32) = T.1 := by
            try rw [← hT]
            try rfl
          exact kc_iret hx hb hr hlocks hv9 hP9 hD9 hS dX5_number_40
      · refine lv_aload_n hx hb dX5_number_17 rfl (lv_at hl 0 rfl) ?_
        have hPc := hP.sub (ws' := [(q, .inr (5, [.int th, .ref tx, .int (nI mz), .int fl, .int (bI it), .long al, .ref pt, .int (nI dg), .ref ot, .int (nI wr), .int (nI kz), .ref ka, .ref kd, .ref kp, .int (nI ma), .int (bI wg)])), (tx, .inl (c1, 256, .inl X))]) [0, 1] rfl
        have hDc := hD.sub (ws' := [(q, .inr (5, [.int th, .ref tx, .int (nI mz), .int fl, .int (bI it), .long al, .ref pt, .int (nI dg), .ref ot, .int (nI wr), .int (nI kz), .ref ka, .ref kd, .ref kp, .int (nI ma), .int (bI wg)])), (tx, .inl (c1, 256, .inl X))]) [0, 1] (by decide) rfl
        have hKc := hK.sub (tys' := [(c1, .int)]) [0] rfl
        have hFc := va_free (wc := [(q, .inr (5, [.int th, .ref tx, .int (nI mz), .int fl, .int (bI it), .long al, .ref pt, .int (nI dg), .ref ot, .int (nI wr), .int (nI kz), .ref ka, .ref kd, .ref kp, .int (nI ma), .int (bI wg)])), (tx, .inl (c1, 256, .inl X))]) hD hS hA [0, 1] rfl
        refine kc_callSi (val := bI (mDig X mz ma)) (va_runV (As := []) (rest := [.ref q]) ⟨hx, hb, hml, hown, hts⟩ (m_isDigit l dC dI st H.size q th tx mz fl it al pt dg ot wr kz ka kd kp ma wg c1 X hz (by omega)) (cwV 0 hts (kwV kwm_228 kwm_229 kwm_230 kwm_203 kwm_227) rfl rfl rfl (by decide +kernel) ⟨Nat.le_of_ble_eq_true rfl, Nat.le_of_ble_eq_true rfl⟩) ⟨kc_blind, va_recv hKc hPc (ci := 5) (q0 := 0) rfl rfl, kc_pre hG hS hFc hKc hPc hDc⟩ rfl rfl hl.1 rfl (lv_room (Nat.le_of_ble_eq_true rfl)) dX5_number_18 ⟨Nat.le_of_ble_eq_true rfl, Nat.le_of_ble_eq_true rfl⟩) ?_
        refine lv_if_ne (tgt := 28) hx hb dX5_number_21 (by decide) (fun c_21 => ?_) (fun c_21 => ?_)
        · refine lv_iconst (v := 0) hx hb dX5_number_28 (by decide) ?_
          refine va_put (D := (dC, dI)) (ci := 5) (v := .int 0) (ty := .boolean) (C := RX5) (T := TX5) (N := 16) hx hb hts kin_5 tyX5 tyX5_ok nmX5 hown hK hP hD hS 0 rfl rfl 15 (by decide) (hts _ (kcm kwm_235)) (fun _ h9 => h9) rfl (by decide +kernel) rfl rfl (Nat.le_of_ble_eq_true rfl) dX5_number_29 (fun H locs hP hD hS => ?_)
          have hP : va_P (dC, dI) kcl [(q, .inr (5, [.int th, .ref tx, .int (nI mz), .int fl, .int (bI it), .long al, .ref pt, .int (nI dg), .ref ot, .int (nI wr), .int (nI kz), .ref ka, .ref kd, .ref kp, .int (nI ma), .int (bI false)])), (tx, .inl (c1, 256, .inl X))] H := hP
          have hD : va_D A [(q, .inr (5, [.int th, .ref tx, .int (nI mz), .int fl, .int (bI it), .long al, .ref pt, .int (nI dg), .ref ot, .int (nI wr), .int (nI kz), .ref ka, .ref kd, .ref kp, .int (nI ma), .int (bI false)])), (tx, .inl (c1, 256, .inl X))] := hD
          refine lv_aload_n hx hb dX5_number_32 rfl (lv_at hl 0 rfl) ?_
          refine va_get (D := (dC, dI)) (ci := 5) (v := .int (bI false)) (C := RX5) (T := TX5) (N := 16) hx hb hts kin_5 hown hK hP 0 rfl rfl 15 (by decide) (hts _ (kcm kwm_235)) (fun _ h9 => h9) rfl dX5_number_33 ?_
          refine lv_if_eq (tgt := 41) hx hb dX5_number_36 (by decide) (fun c_36 => ?_) (fun c_36 => ?_)
          · refine lv_bipush (v := 10) hx hb dX5_number_41 (by decide) ?_
            refine lv_iload_n hx hb dX5_number_43 rfl (lv_at hl 2 rfl) ?_
            refine lv_imul hx hb dX5_number_44 ?_
            refine lv_aload_n hx hb dX5_number_45 rfl (lv_at hl 0 rfl) ?_
            refine va_get (D := (dC, dI)) (ci := 5) (v := .ref tx) (C := RX5) (T := TX5) (N := 16) hx hb hts kin_5 hown hK hP 0 rfl rfl 1 (by decide) (hts _ (kcm kwm_205)) (fun _ h9 => h9) rfl dX5_number_46 ?_
            refine lv_aload_n hx hb dX5_number_49 rfl (lv_at hl 0 rfl) ?_
            refine va_get (D := (dC, dI)) (ci := 5) (v := .int (nI ma)) (C := RX5) (T := TX5) (N := 16) hx hb hts kin_5 hown hK hP 0 rfl rfl 14 (by decide) (hts _ (kcm kwm_226)) (fun _ h9 => h9) rfl dX5_number_50 ?_
            refine va_iald hx hb hK hP 1 0 rfl rfl (vp_in_nI (Nat.lt_of_lt_of_le (mDig_lt c_21 (by omega)) (by omega)) (by decide)) dX5_number_53 ?_
            rw [show (nI ma).toNatClampNeg = ma from nI_clamp (by omega)]
            refine lv_iadd hx hb dX5_number_54 ?_
            refine lv_bipush (v := 48) hx hb dX5_number_55 (by decide) ?_
            refine lv_isub hx hb dX5_number_57 ?_
            refine lv_istore_n (lv' := [(2, .int (((10 * v) + (X ma)) - 48)), (0, .ref q), (1, .int (nI nn)), (3, .int (nI k))]) hx hb dX5_number_58 rfl hl (by decide) rfl (fun ls hl => ?_)
            refine lv_aload_n hx hb dX5_number_59 rfl (lv_at hl 1 rfl) ?_
            refine lv_dup hx hb dX5_number_60 rfl ?_
            refine va_get (D := (dC, dI)) (ci := 5) (v := .int (nI ma)) (C := RX5) (T := TX5) (N := 16) hx hb hts kin_5 hown hK hP 0 rfl rfl 14 (by decide) (hts _ (kcm kwm_226)) (fun _ h9 => h9) rfl dX5_number_61 ?_
            refine lv_iconst (v := 1) hx hb dX5_number_64 (by decide) ?_
            refine lv_iadd hx hb dX5_number_65 ?_
            rw [show (nI ma) + 1 = nI (ma + 1) from nI_add ma 1]
            refine va_put (D := (dC, dI)) (ci := 5) (v := .int (nI (ma + 1))) (ty := .int) (C := RX5) (T := TX5) (N := 16) hx hb hts kin_5 tyX5 tyX5_ok nmX5 hown hK hP hD hS 0 rfl rfl 14 (by decide) (hts _ (kcm kwm_226)) (fun _ h9 => h9) rfl (by decide +kernel) rfl rfl (Nat.le_of_ble_eq_true rfl) dX5_number_66 (fun H locs hP hD hS => ?_)
            have hP : va_P (dC, dI) kcl [(q, .inr (5, [.int th, .ref tx, .int (nI mz), .int fl, .int (bI it), .long al, .ref pt, .int (nI dg), .ref ot, .int (nI wr), .int (nI kz), .ref ka, .ref kd, .ref kp, .int (nI (ma + 1)), .int (bI false)])), (tx, .inl (c1, 256, .inl X))] H := hP
            have hD : va_D A [(q, .inr (5, [.int th, .ref tx, .int (nI mz), .int fl, .int (bI it), .long al, .ref pt, .int (nI dg), .ref ot, .int (nI wr), .int (nI kz), .ref ka, .ref kd, .ref kp, .int (nI (ma + 1)), .int (bI false)])), (tx, .inl (c1, 256, .inl X))] := hD
            refine lv_iinc (v := (nI k) + 1) (lv' := [(3, .int ((nI k) + 1)), (2, .int (((10 * v) + (X ma)) - 48)), (0, .ref q), (1, .int (nI nn))]) hx hb dX5_number_69 hl (k := 3) rfl (congrArg (fun z => (nI k) + z) (show Int32.ofInt (1) = (1 : Int32) by decide)) (by decide) rfl (fun ls hl => ?_)
            refine lv_goto (tgt := 4) hx hb dX5_number_72 (by decide) ?_
            rw [nI_1] at hl
            exact ih (k + 1) (ma + 1) _ false (by omega) (by omega) (by rw [← hT]; exact ((if_pos c_14).trans (if_neg c_21)).symm) H locs ls hP hD hS (lv_sub hl [2, 3, 1, 0] rfl)
          · exact absurd (by decide) c_36
        · refine lv_iconst (v := 1) hx hb dX5_number_24 (by decide) ?_
          refine lv_goto (tgt := 29) hx hb dX5_number_25 (by decide) ?_
          refine va_put (D := (dC, dI)) (ci := 5) (v := .int 1) (ty := .boolean) (C := RX5) (T := TX5) (N := 16) hx hb hts kin_5 tyX5 tyX5_ok nmX5 hown hK hP hD hS 0 rfl rfl 15 (by decide) (hts _ (kcm kwm_235)) (fun _ h9 => h9) rfl (by decide +kernel) rfl rfl (Nat.le_of_ble_eq_true rfl) dX5_number_29 (fun H locs hP hD hS => ?_)
          have hP : va_P (dC, dI) kcl [(q, .inr (5, [.int th, .ref tx, .int (nI mz), .int fl, .int (bI it), .long al, .ref pt, .int (nI dg), .ref ot, .int (nI wr), .int (nI kz), .ref ka, .ref kd, .ref kp, .int (nI ma), .int (bI true)])), (tx, .inl (c1, 256, .inl X))] H := hP
          have hD : va_D A [(q, .inr (5, [.int th, .ref tx, .int (nI mz), .int fl, .int (bI it), .long al, .ref pt, .int (nI dg), .ref ot, .int (nI wr), .int (nI kz), .ref ka, .ref kd, .ref kp, .int (nI ma), .int (bI true)])), (tx, .inl (c1, 256, .inl X))] := hD
          refine lv_aload_n hx hb dX5_number_32 rfl (lv_at hl 0 rfl) ?_
          refine va_get (D := (dC, dI)) (ci := 5) (v := .int (bI true)) (C := RX5) (T := TX5) (N := 16) hx hb hts kin_5 hown hK hP 0 rfl rfl 15 (by decide) (hts _ (kcm kwm_235)) (fun _ h9 => h9) rfl dX5_number_33 ?_
          refine lv_if_eq (tgt := 41) hx hb dX5_number_36 (by decide) (fun c_36 => ?_) (fun c_36 => ?_)
          · exact absurd c_36 (by decide)
          · refine lv_iconst (v := 0) hx hb dX5_number_39 (by decide) ?_
            have hT : ((0 : Int32), ma, true) = T := by rw [← hT]; exact ((if_pos c_14).trans (if_pos c_21)).symm
            have hP9 : va_P (dC, dI) kcl [(q, .inr (5, [.int th, .ref tx, .int (nI mz), .int fl, .int (bI it), .long al, .ref pt, .int (nI dg), .ref ot, .int (nI wr), .int (nI kz), .ref ka, .ref kd, .ref kp, .int (nI T.2.1), .int (bI T.2.2)])), (tx, .inl (c1, 256, .inl X))] H := by
              try rw [← hT]
              exact hP.sub [0, 1] rfl
            have hD9 : va_D A [(q, .inr (5, [.int th, .ref tx, .int (nI mz), .int fl, .int (bI it), .long al, .ref pt, .int (nI dg), .ref ot, .int (nI wr), .int (nI kz), .ref ka, .ref kd, .ref kp, .int (nI T.2.1), .int (bI T.2.2)])), (tx, .inl (c1, 256, .inl X))] := by
              try rw [← hT]
              exact hD.sub [0, 1] (by decide) rfl
            have hv9 : (0 : Int32) = T.1 := by
              try rw [← hT]
              try rfl
            exact kc_iret hx hb hr hlocks hv9 hP9 hD9 hS dX5_number_40
set_option maxHeartbeats 4000000 in
set_option maxRecDepth 100000 in
theorem m_number (l : Launch) (dC : Nat → ClassId) (dI : Nat → Nat → Nat) (st sz : Nat) (q : Nat) (th : Int32) (tx : Nat) (mz : Nat) (fl : Int32) (it : Bool) (al : Int64) (pt : Nat) (dg : Nat) (ot : Nat) (wr : Nat) (kz : Nat) (ka : Nat) (kd : Nat) (kp : Nat) (ma : Nat) (wg : Bool) (c1 : ClassId) (X : Nat → Int32) (nn : Nat) (hz : mz ≤ 242) (hnn : nn ≤ 4) (ha : ma ≤ 890) : Met l yX5_number wsX5_number ({ frames := 1, cells := 0, slots := 0, locals := 20 }) (kc_Pc (dC, dI) kcl st sz [.ref q, .int (nI nn)] [(q, .inr (5, [.int th, .ref tx, .int (nI mz), .int fl, .int (bI it), .long al, .ref pt, .int (nI dg), .ref ot, .int (nI wr), .int (nI kz), .ref ka, .ref kd, .ref kp, .int (nI ma), .int (bI wg)])), (tx, .inl (c1, 256, .inl X))] [(c1, .int)]) (kc_Qi (dC, dI) kcl (mNumL X mz nn 0 ma wg).1 [(q, .inr (5, [.int th, .ref tx, .int (nI mz), .int fl, .int (bI it), .long al, .ref pt, .int (nI dg), .ref ot, .int (nI wr), .int (nI kz), .ref ka, .ref kd, .ref kp, .int (nI (mNumL X mz nn 0 ma wg).2.1), .int (bI (mNumL X mz nn 0 ma wg).2.2)])), (tx, .inl (c1, 256, .inl X))] (va_A [(q, .inr (5, [.int th, .ref tx, .int (nI mz), .int fl, .int (bI it), .long al, .ref pt, .int (nI dg), .ref ot, .int (nI wr), .int (nI kz), .ref ka, .ref kd, .ref kp, .int (nI ma), .int (bI wg)])), (tx, .inl (c1, 256, .inl X))] sz)) 0 0 (va_A [(q, .inr (5, [.int th, .ref tx, .int (nI mz), .int fl, .int (bI it), .long al, .ref pt, .int (nI dg), .ref ot, .int (nI wr), .int (nI kz), .ref ka, .ref kd, .ref kp, .int (nI ma), .int (bI wg)])), (tx, .inl (c1, 256, .inl X))] sz) := by
  refine kc_ofW (Qc := fun A => (kc_Qi (dC, dI) kcl (mNumL X mz nn 0 ma wg).1 [(q, .inr (5, [.int th, .ref tx, .int (nI mz), .int fl, .int (bI it), .long al, .ref pt, .int (nI dg), .ref ot, .int (nI wr), .int (nI kz), .ref ka, .ref kd, .ref kp, .int (nI (mNumL X mz nn 0 ma wg).2.1), .int (bI (mNumL X mz nn 0 ma wg).2.2)])), (tx, .inl (c1, 256, .inl X))] A)) (cc := cX5_number) (maxL := 4) (ret := (some .int)) (by decide) rfl (Nat.le_of_ble_eq_true rfl) ?_
  intro p e s m below meth c A ls Cx hA hG hK hP hD hS hl
  obtain ⟨hx, hb, hr, hml, hown, hts, hlocks, hnm⟩ := id Cx
  have hl : lv_has ls 4 [(0, .ref q), (1, .int (nI nn))] := hl
  refine lv_iconst (v := 0) hx hb dX5_number_0 (by decide) ?_
  refine lv_istore_n (lv' := [(2, .int 0), (0, .ref q), (1, .int (nI nn))]) hx hb dX5_number_1 rfl hl (by decide) rfl (fun ls hl => ?_)
  refine lv_iconst (v := 0) hx hb dX5_number_2 (by decide) ?_
  refine lv_istore_n (lv' := [(3, .int 0), (2, .int 0), (0, .ref q), (1, .int (nI nn))]) hx hb dX5_number_3 rfl hl (by decide) rfl (fun ls hl => ?_)
  exact lp_num dC dI st q th tx mz fl it al pt dg ot wr kz ka kd kp c1 X nn hz hnn (mNumL X mz nn 0 ma wg) Cx hA hG hK nn 0 ma 0 wg (by omega) (by omega) rfl s.heap [] ls hP hD hS (lv_sub hl [2, 3, 1, 0] rfl)
def mTwo (X : Nat → Int32) (mz ma : Nat) (wg : Bool) (lo hi : Int32) : Int32 × Nat × Bool :=
  let v_2 := mNumL X mz 2 0 ma wg
  if (bI v_2.2.2) = 0 then
    if v_2.1 < lo then
      (lo, v_2.2.1, true)
    else
      if v_2.1 ≤ hi then
        (v_2.1, v_2.2.1, false)
      else
        (lo, v_2.2.1, true)
  else
    (lo, v_2.2.1, true)
set_option maxHeartbeats 4000000 in
set_option maxRecDepth 100000 in
theorem m_two (l : Launch) (dC : Nat → ClassId) (dI : Nat → Nat → Nat) (st sz : Nat) (q : Nat) (th : Int32) (tx : Nat) (mz : Nat) (fl : Int32) (it : Bool) (al : Int64) (pt : Nat) (dg : Nat) (ot : Nat) (wr : Nat) (kz : Nat) (ka : Nat) (kd : Nat) (kp : Nat) (ma : Nat) (wg : Bool) (c1 : ClassId) (X : Nat → Int32) (lo : Int32) (hi : Int32) (hz : mz ≤ 242) (ha : ma ≤ 880) : Met l yX5_two wsX5_two ({ frames := 2, cells := 0, slots := 0, locals := 43 }) (kc_Pc (dC, dI) kcl st sz [.ref q, .int lo, .int hi] [(q, .inr (5, [.int th, .ref tx, .int (nI mz), .int fl, .int (bI it), .long al, .ref pt, .int (nI dg), .ref ot, .int (nI wr), .int (nI kz), .ref ka, .ref kd, .ref kp, .int (nI ma), .int (bI wg)])), (tx, .inl (c1, 256, .inl X))] [(c1, .int)]) (kc_Qi (dC, dI) kcl (mTwo X mz ma wg lo hi).1 [(q, .inr (5, [.int th, .ref tx, .int (nI mz), .int fl, .int (bI it), .long al, .ref pt, .int (nI dg), .ref ot, .int (nI wr), .int (nI kz), .ref ka, .ref kd, .ref kp, .int (nI (mTwo X mz ma wg lo hi).2.1), .int (bI (mTwo X mz ma wg lo hi).2.2)])), (tx, .inl (c1, 256, .inl X))] (va_A [(q, .inr (5, [.int th, .ref tx, .int (nI mz), .int fl, .int (bI it), .long al, .ref pt, .int (nI dg), .ref ot, .int (nI wr), .int (nI kz), .ref ka, .ref kd, .ref kp, .int (nI ma), .int (bI wg)])), (tx, .inl (c1, 256, .inl X))] sz)) 0 0 (va_A [(q, .inr (5, [.int th, .ref tx, .int (nI mz), .int fl, .int (bI it), .long al, .ref pt, .int (nI dg), .ref ot, .int (nI wr), .int (nI kz), .ref ka, .ref kd, .ref kp, .int (nI ma), .int (bI wg)])), (tx, .inl (c1, 256, .inl X))] sz) := by
  refine kc_ofW (Qc := fun A => (kc_Qi (dC, dI) kcl (mTwo X mz ma wg lo hi).1 [(q, .inr (5, [.int th, .ref tx, .int (nI mz), .int fl, .int (bI it), .long al, .ref pt, .int (nI dg), .ref ot, .int (nI wr), .int (nI kz), .ref ka, .ref kd, .ref kp, .int (nI (mTwo X mz ma wg lo hi).2.1), .int (bI (mTwo X mz ma wg lo hi).2.2)])), (tx, .inl (c1, 256, .inl X))] A)) (cc := cX5_two) (maxL := 4) (ret := (some .int)) (by decide) rfl (Nat.le_of_ble_eq_true rfl) ?_
  intro p e s m below meth c A ls Cx hA hG hK hP hD hS hl
  obtain ⟨hx, hb, hr, hml, hown, hts, hlocks, hnm⟩ := id Cx
  have hl : lv_has ls 4 [(0, .ref q), (1, .int lo), (2, .int hi)] := hl
  refine lv_aload_n hx hb dX5_two_0 rfl (lv_at hl 0 rfl) ?_
  refine lv_iconst (v := 2) hx hb dX5_two_1 (by decide) ?_
  have hPc := hP.sub (ws' := [(q, .inr (5, [.int th, .ref tx, .int (nI mz), .int fl, .int (bI it), .long al, .ref pt, .int (nI dg), .ref ot, .int (nI wr), .int (nI kz), .ref ka, .ref kd, .ref kp, .int (nI ma), .int (bI wg)])), (tx, .inl (c1, 256, .inl X))]) [0, 1] rfl
  have hDc := hD.sub (ws' := [(q, .inr (5, [.int th, .ref tx, .int (nI mz), .int fl, .int (bI it), .long al, .ref pt, .int (nI dg), .ref ot, .int (nI wr), .int (nI kz), .ref ka, .ref kd, .ref kp, .int (nI ma), .int (bI wg)])), (tx, .inl (c1, 256, .inl X))]) [0, 1] (by decide) rfl
  have hKc := hK.sub (tys' := [(c1, .int)]) [0] rfl
  have hFc := va_free (wc := [(q, .inr (5, [.int th, .ref tx, .int (nI mz), .int fl, .int (bI it), .long al, .ref pt, .int (nI dg), .ref ot, .int (nI wr), .int (nI kz), .ref ka, .ref kd, .ref kp, .int (nI ma), .int (bI wg)])), (tx, .inl (c1, 256, .inl X))]) hD hS hA [0, 1] rfl
  refine kc_calli (val := (mNumL X mz 2 0 ma wg).1) (wr := []) (w1 := [(q, .inr (5, [.int th, .ref tx, .int (nI mz), .int fl, .int (bI it), .long al, .ref pt, .int (nI dg), .ref ot, .int (nI wr), .int (nI kz), .ref ka, .ref kd, .ref kp, .int (nI (mNumL X mz 2 0 ma wg).2.1), .int (bI (mNumL X mz 2 0 ma wg).2.2)])), (tx, .inl (c1, 256, .inl X))]) (va_runV (As := [.int 2]) (rest := []) ⟨hx, hb, hml, hown, hts⟩ (m_number l dC dI st s.heap.size q th tx mz fl it al pt dg ot wr kz ka kd kp ma wg c1 X 2 hz (by decide) (by omega)) (cwV 1 hts (kwV kwm_232 kwm_233 kwm_234 kwm_203 kwm_231) rfl rfl rfl (by decide +kernel) ⟨Nat.le_of_ble_eq_true rfl, Nat.le_of_ble_eq_true rfl⟩) ⟨kc_blind, va_recv hKc hPc (ci := 5) (q0 := 0) rfl rfl, kc_pre hG hS hFc hKc hPc hDc⟩ rfl rfl hl.1 rfl (lv_room (Nat.le_of_ble_eq_true rfl)) dX5_two_2 ⟨Nat.le_of_ble_eq_true rfl, Nat.le_of_ble_eq_true rfl⟩) hP hD hS hFc [0, 1] [] rfl rfl (by decide) (by decide) (fun H locs hP hD hS => ?_)
  have hP : va_P (dC, dI) kcl [(q, .inr (5, [.int th, .ref tx, .int (nI mz), .int fl, .int (bI it), .long al, .ref pt, .int (nI dg), .ref ot, .int (nI wr), .int (nI kz), .ref ka, .ref kd, .ref kp, .int (nI (mNumL X mz 2 0 ma wg).2.1), .int (bI (mNumL X mz 2 0 ma wg).2.2)])), (tx, .inl (c1, 256, .inl X))] H := hP
  have hD : va_D A [(q, .inr (5, [.int th, .ref tx, .int (nI mz), .int fl, .int (bI it), .long al, .ref pt, .int (nI dg), .ref ot, .int (nI wr), .int (nI kz), .ref ka, .ref kd, .ref kp, .int (nI (mNumL X mz 2 0 ma wg).2.1), .int (bI (mNumL X mz 2 0 ma wg).2.2)])), (tx, .inl (c1, 256, .inl X))] := hD
  generalize e_2 : mNumL X mz 2 0 ma wg = v_2 at hP hD ⊢
  have hP : va_P (dC, dI) kcl [(q, .inr (5, [.int th, .ref tx, .int (nI mz), .int fl, .int (bI it), .long al, .ref pt, .int (nI dg), .ref ot, .int (nI wr), .int (nI kz), .ref ka, .ref kd, .ref kp, .int (nI v_2.2.1), .int (bI v_2.2.2)])), (tx, .inl (c1, 256, .inl X))] H := hP
  have hD : va_D A [(q, .inr (5, [.int th, .ref tx, .int (nI mz), .int fl, .int (bI it), .long al, .ref pt, .int (nI dg), .ref ot, .int (nI wr), .int (nI kz), .ref ka, .ref kd, .ref kp, .int (nI v_2.2.1), .int (bI v_2.2.2)])), (tx, .inl (c1, 256, .inl X))] := hD
  refine lv_istore_n (lv' := [(3, .int v_2.1), (0, .ref q), (1, .int lo), (2, .int hi)]) hx hb dX5_two_5 rfl hl (by decide) rfl (fun ls hl => ?_)
  refine lv_aload_n hx hb dX5_two_6 rfl (lv_at hl 1 rfl) ?_
  refine lv_aload_n hx hb dX5_two_7 rfl (lv_at hl 1 rfl) ?_
  refine va_get (D := (dC, dI)) (ci := 5) (v := .int (bI v_2.2.2)) (C := RX5) (T := TX5) (N := 16) hx hb hts kin_5 hown hK hP 0 rfl rfl 15 (by decide) (hts _ (kcm kwm_235)) (fun _ h9 => h9) rfl dX5_two_8 ?_
  refine lv_if_ne (tgt := 24) hx hb dX5_two_11 (by decide) (fun c_11 => ?_) (fun c_11 => ?_)
  · refine lv_iconst (v := 1) hx hb dX5_two_24 (by decide) ?_
    refine lv_goto (tgt := 29) hx hb dX5_two_25 (by decide) ?_
    refine va_put (D := (dC, dI)) (ci := 5) (v := .int 1) (ty := .boolean) (C := RX5) (T := TX5) (N := 16) hx hb hts kin_5 tyX5 tyX5_ok nmX5 hown hK hP hD hS 0 rfl rfl 15 (by decide) (hts _ (kcm kwm_235)) (fun _ h9 => h9) rfl (by decide +kernel) rfl rfl (Nat.le_of_ble_eq_true rfl) dX5_two_29 (fun H locs hP hD hS => ?_)
    have hP : va_P (dC, dI) kcl [(q, .inr (5, [.int th, .ref tx, .int (nI mz), .int fl, .int (bI it), .long al, .ref pt, .int (nI dg), .ref ot, .int (nI wr), .int (nI kz), .ref ka, .ref kd, .ref kp, .int (nI v_2.2.1), .int (bI true)])), (tx, .inl (c1, 256, .inl X))] H := hP
    have hD : va_D A [(q, .inr (5, [.int th, .ref tx, .int (nI mz), .int fl, .int (bI it), .long al, .ref pt, .int (nI dg), .ref ot, .int (nI wr), .int (nI kz), .ref ka, .ref kd, .ref kp, .int (nI v_2.2.1), .int (bI true)])), (tx, .inl (c1, 256, .inl X))] := hD
    refine lv_aload_n hx hb dX5_two_32 rfl (lv_at hl 1 rfl) ?_
    refine va_get (D := (dC, dI)) (ci := 5) (v := .int (bI true)) (C := RX5) (T := TX5) (N := 16) hx hb hts kin_5 hown hK hP 0 rfl rfl 15 (by decide) (hts _ (kcm kwm_235)) (fun _ h9 => h9) rfl dX5_two_33 ?_
    refine lv_if_eq (tgt := 43) hx hb dX5_two_36 (by decide) (fun c_36 => ?_) (fun c_36 => ?_)
    · exact absurd c_36 (by decide)
    · refine lv_iload_n hx hb dX5_two_39 rfl (lv_at hl 2 rfl) ?_
      refine lv_goto (tgt := 44) hx hb dX5_two_40 (by decide) ?_
      have hF9 : mTwo X mz ma wg lo hi = (lo, v_2.2.1, true) := by
        subst e_2
        first | (simp only [mTwo, if_neg c_11]; done) | rfl
      have hP9 : va_P (dC, dI) kcl [(q, .inr (5, [.int th, .ref tx, .int (nI mz), .int fl, .int (bI it), .long al, .ref pt, .int (nI dg), .ref ot, .int (nI wr), .int (nI kz), .ref ka, .ref kd, .ref kp, .int (nI (mTwo X mz ma wg lo hi).2.1), .int (bI (mTwo X mz ma wg lo hi).2.2)])), (tx, .inl (c1, 256, .inl X))] H := by
        try rw [hF9]
        exact hP.sub [0, 1] rfl
      have hD9 : va_D A [(q, .inr (5, [.int th, .ref tx, .int (nI mz), .int fl, .int (bI it), .long al, .ref pt, .int (nI dg), .ref ot, .int (nI wr), .int (nI kz), .ref ka, .ref kd, .ref kp, .int (nI (mTwo X mz ma wg lo hi).2.1), .int (bI (mTwo X mz ma wg lo hi).2.2)])), (tx, .inl (c1, 256, .inl X))] := by
        try rw [hF9]
        exact hD.sub [0, 1] (by decide) rfl
      have hv9 : lo = (mTwo X mz ma wg lo hi).1 := by
        try rw [hF9]
        try rfl
      exact kc_iret hx hb hr hlocks hv9 hP9 hD9 hS dX5_two_44
  · refine lv_iload_n hx hb dX5_two_14 rfl (lv_at hl 0 rfl) ?_
    refine lv_iload_n hx hb dX5_two_15 rfl (lv_at hl 2 rfl) ?_
    refine lv_icmp_lt (tgt := 24) hx hb dX5_two_16 (by decide) (fun c_16 => ?_) (fun c_16 => ?_)
    · refine lv_iconst (v := 1) hx hb dX5_two_24 (by decide) ?_
      refine lv_goto (tgt := 29) hx hb dX5_two_25 (by decide) ?_
      refine va_put (D := (dC, dI)) (ci := 5) (v := .int 1) (ty := .boolean) (C := RX5) (T := TX5) (N := 16) hx hb hts kin_5 tyX5 tyX5_ok nmX5 hown hK hP hD hS 0 rfl rfl 15 (by decide) (hts _ (kcm kwm_235)) (fun _ h9 => h9) rfl (by decide +kernel) rfl rfl (Nat.le_of_ble_eq_true rfl) dX5_two_29 (fun H locs hP hD hS => ?_)
      have hP : va_P (dC, dI) kcl [(q, .inr (5, [.int th, .ref tx, .int (nI mz), .int fl, .int (bI it), .long al, .ref pt, .int (nI dg), .ref ot, .int (nI wr), .int (nI kz), .ref ka, .ref kd, .ref kp, .int (nI v_2.2.1), .int (bI true)])), (tx, .inl (c1, 256, .inl X))] H := hP
      have hD : va_D A [(q, .inr (5, [.int th, .ref tx, .int (nI mz), .int fl, .int (bI it), .long al, .ref pt, .int (nI dg), .ref ot, .int (nI wr), .int (nI kz), .ref ka, .ref kd, .ref kp, .int (nI v_2.2.1), .int (bI true)])), (tx, .inl (c1, 256, .inl X))] := hD
      refine lv_aload_n hx hb dX5_two_32 rfl (lv_at hl 1 rfl) ?_
      refine va_get (D := (dC, dI)) (ci := 5) (v := .int (bI true)) (C := RX5) (T := TX5) (N := 16) hx hb hts kin_5 hown hK hP 0 rfl rfl 15 (by decide) (hts _ (kcm kwm_235)) (fun _ h9 => h9) rfl dX5_two_33 ?_
      refine lv_if_eq (tgt := 43) hx hb dX5_two_36 (by decide) (fun c_36 => ?_) (fun c_36 => ?_)
      · exact absurd c_36 (by decide)
      · refine lv_iload_n hx hb dX5_two_39 rfl (lv_at hl 2 rfl) ?_
        refine lv_goto (tgt := 44) hx hb dX5_two_40 (by decide) ?_
        have hF9 : mTwo X mz ma wg lo hi = (lo, v_2.2.1, true) := by
          subst e_2
          first | (simp only [mTwo, if_pos c_11, if_pos c_16]; done) | rfl
        have hP9 : va_P (dC, dI) kcl [(q, .inr (5, [.int th, .ref tx, .int (nI mz), .int fl, .int (bI it), .long al, .ref pt, .int (nI dg), .ref ot, .int (nI wr), .int (nI kz), .ref ka, .ref kd, .ref kp, .int (nI (mTwo X mz ma wg lo hi).2.1), .int (bI (mTwo X mz ma wg lo hi).2.2)])), (tx, .inl (c1, 256, .inl X))] H := by
          try rw [hF9]
          exact hP.sub [0, 1] rfl
        have hD9 : va_D A [(q, .inr (5, [.int th, .ref tx, .int (nI mz), .int fl, .int (bI it), .long al, .ref pt, .int (nI dg), .ref ot, .int (nI wr), .int (nI kz), .ref ka, .ref kd, .ref kp, .int (nI (mTwo X mz ma wg lo hi).2.1), .int (bI (mTwo X mz ma wg lo hi).2.2)])), (tx, .inl (c1, 256, .inl X))] := by
          try rw [hF9]
          exact hD.sub [0, 1] (by decide) rfl
        have hv9 : lo = (mTwo X mz ma wg lo hi).1 := by
          try rw [hF9]
          try rfl
        exact kc_iret hx hb hr hlocks hv9 hP9 hD9 hS dX5_two_44
    · refine lv_iload_n hx hb dX5_two_19 rfl (lv_at hl 0 rfl) ?_
      refine lv_iload_n hx hb dX5_two_20 rfl (lv_at hl 3 rfl) ?_
      refine lv_icmp_le (tgt := 28) hx hb dX5_two_21 (by decide) (fun c_21 => ?_) (fun c_21 => ?_)
      · refine lv_iconst (v := 0) hx hb dX5_two_28 (by decide) ?_
        refine va_put (D := (dC, dI)) (ci := 5) (v := .int 0) (ty := .boolean) (C := RX5) (T := TX5) (N := 16) hx hb hts kin_5 tyX5 tyX5_ok nmX5 hown hK hP hD hS 0 rfl rfl 15 (by decide) (hts _ (kcm kwm_235)) (fun _ h9 => h9) rfl (by decide +kernel) rfl rfl (Nat.le_of_ble_eq_true rfl) dX5_two_29 (fun H locs hP hD hS => ?_)
        have hP : va_P (dC, dI) kcl [(q, .inr (5, [.int th, .ref tx, .int (nI mz), .int fl, .int (bI it), .long al, .ref pt, .int (nI dg), .ref ot, .int (nI wr), .int (nI kz), .ref ka, .ref kd, .ref kp, .int (nI v_2.2.1), .int (bI false)])), (tx, .inl (c1, 256, .inl X))] H := hP
        have hD : va_D A [(q, .inr (5, [.int th, .ref tx, .int (nI mz), .int fl, .int (bI it), .long al, .ref pt, .int (nI dg), .ref ot, .int (nI wr), .int (nI kz), .ref ka, .ref kd, .ref kp, .int (nI v_2.2.1), .int (bI false)])), (tx, .inl (c1, 256, .inl X))] := hD
        refine lv_aload_n hx hb dX5_two_32 rfl (lv_at hl 1 rfl) ?_
        refine va_get (D := (dC, dI)) (ci := 5) (v := .int (bI false)) (C := RX5) (T := TX5) (N := 16) hx hb hts kin_5 hown hK hP 0 rfl rfl 15 (by decide) (hts _ (kcm kwm_235)) (fun _ h9 => h9) rfl dX5_two_33 ?_
        refine lv_if_eq (tgt := 43) hx hb dX5_two_36 (by decide) (fun c_36 => ?_) (fun c_36 => ?_)
        · refine lv_iload_n hx hb dX5_two_43 rfl (lv_at hl 0 rfl) ?_
          have hF9 : mTwo X mz ma wg lo hi = (v_2.1, v_2.2.1, false) := by
            subst e_2
            first | (simp only [mTwo, if_pos c_11, if_neg c_16, if_pos c_21]; done) | rfl
          have hP9 : va_P (dC, dI) kcl [(q, .inr (5, [.int th, .ref tx, .int (nI mz), .int fl, .int (bI it), .long al, .ref pt, .int (nI dg), .ref ot, .int (nI wr), .int (nI kz), .ref ka, .ref kd, .ref kp, .int (nI (mTwo X mz ma wg lo hi).2.1), .int (bI (mTwo X mz ma wg lo hi).2.2)])), (tx, .inl (c1, 256, .inl X))] H := by
            try rw [hF9]
            exact hP.sub [0, 1] rfl
          have hD9 : va_D A [(q, .inr (5, [.int th, .ref tx, .int (nI mz), .int fl, .int (bI it), .long al, .ref pt, .int (nI dg), .ref ot, .int (nI wr), .int (nI kz), .ref ka, .ref kd, .ref kp, .int (nI (mTwo X mz ma wg lo hi).2.1), .int (bI (mTwo X mz ma wg lo hi).2.2)])), (tx, .inl (c1, 256, .inl X))] := by
            try rw [hF9]
            exact hD.sub [0, 1] (by decide) rfl
          have hv9 : v_2.1 = (mTwo X mz ma wg lo hi).1 := by
            try rw [hF9]
            try rfl
          exact kc_iret hx hb hr hlocks hv9 hP9 hD9 hS dX5_two_44
        · exact absurd (by decide) c_36
      · refine lv_iconst (v := 1) hx hb dX5_two_24 (by decide) ?_
        refine lv_goto (tgt := 29) hx hb dX5_two_25 (by decide) ?_
        refine va_put (D := (dC, dI)) (ci := 5) (v := .int 1) (ty := .boolean) (C := RX5) (T := TX5) (N := 16) hx hb hts kin_5 tyX5 tyX5_ok nmX5 hown hK hP hD hS 0 rfl rfl 15 (by decide) (hts _ (kcm kwm_235)) (fun _ h9 => h9) rfl (by decide +kernel) rfl rfl (Nat.le_of_ble_eq_true rfl) dX5_two_29 (fun H locs hP hD hS => ?_)
        have hP : va_P (dC, dI) kcl [(q, .inr (5, [.int th, .ref tx, .int (nI mz), .int fl, .int (bI it), .long al, .ref pt, .int (nI dg), .ref ot, .int (nI wr), .int (nI kz), .ref ka, .ref kd, .ref kp, .int (nI v_2.2.1), .int (bI true)])), (tx, .inl (c1, 256, .inl X))] H := hP
        have hD : va_D A [(q, .inr (5, [.int th, .ref tx, .int (nI mz), .int fl, .int (bI it), .long al, .ref pt, .int (nI dg), .ref ot, .int (nI wr), .int (nI kz), .ref ka, .ref kd, .ref kp, .int (nI v_2.2.1), .int (bI true)])), (tx, .inl (c1, 256, .inl X))] := hD
        refine lv_aload_n hx hb dX5_two_32 rfl (lv_at hl 1 rfl) ?_
        refine va_get (D := (dC, dI)) (ci := 5) (v := .int (bI true)) (C := RX5) (T := TX5) (N := 16) hx hb hts kin_5 hown hK hP 0 rfl rfl 15 (by decide) (hts _ (kcm kwm_235)) (fun _ h9 => h9) rfl dX5_two_33 ?_
        refine lv_if_eq (tgt := 43) hx hb dX5_two_36 (by decide) (fun c_36 => ?_) (fun c_36 => ?_)
        · exact absurd c_36 (by decide)
        · refine lv_iload_n hx hb dX5_two_39 rfl (lv_at hl 2 rfl) ?_
          refine lv_goto (tgt := 44) hx hb dX5_two_40 (by decide) ?_
          have hF9 : mTwo X mz ma wg lo hi = (lo, v_2.2.1, true) := by
            subst e_2
            first | (simp only [mTwo, if_pos c_11, if_neg c_16, if_neg c_21]; done) | rfl
          have hP9 : va_P (dC, dI) kcl [(q, .inr (5, [.int th, .ref tx, .int (nI mz), .int fl, .int (bI it), .long al, .ref pt, .int (nI dg), .ref ot, .int (nI wr), .int (nI kz), .ref ka, .ref kd, .ref kp, .int (nI (mTwo X mz ma wg lo hi).2.1), .int (bI (mTwo X mz ma wg lo hi).2.2)])), (tx, .inl (c1, 256, .inl X))] H := by
            try rw [hF9]
            exact hP.sub [0, 1] rfl
          have hD9 : va_D A [(q, .inr (5, [.int th, .ref tx, .int (nI mz), .int fl, .int (bI it), .long al, .ref pt, .int (nI dg), .ref ot, .int (nI wr), .int (nI kz), .ref ka, .ref kd, .ref kp, .int (nI (mTwo X mz ma wg lo hi).2.1), .int (bI (mTwo X mz ma wg lo hi).2.2)])), (tx, .inl (c1, 256, .inl X))] := by
            try rw [hF9]
            exact hD.sub [0, 1] (by decide) rfl
          have hv9 : lo = (mTwo X mz ma wg lo hi).1 := by
            try rw [hF9]
            try rfl
          exact kc_iret hx hb hr hlocks hv9 hP9 hD9 hS dX5_two_44
def mYear (X : Nat → Int32) (mz ma : Nat) (wg : Bool) (kind : Int32) : Int32 × Nat × Bool :=
  if kind = 0 then
    let v_12 := mNumL X mz 2 0 ma wg
    if 50 ≤ v_12.1 then
      (1900 + v_12.1, v_12.2.1, v_12.2.2)
    else
      (2000 + v_12.1, v_12.2.1, v_12.2.2)
  else
    let v_6 := mNumL X mz 4 0 ma wg
    (v_6.1, v_6.2.1, v_6.2.2)
set_option maxHeartbeats 4000000 in
set_option maxRecDepth 100000 in
theorem m_yearOfText (l : Launch) (dC : Nat → ClassId) (dI : Nat → Nat → Nat) (st sz : Nat) (q : Nat) (th : Int32) (tx : Nat) (mz : Nat) (fl : Int32) (it : Bool) (al : Int64) (pt : Nat) (dg : Nat) (ot : Nat) (wr : Nat) (kz : Nat) (ka : Nat) (kd : Nat) (kp : Nat) (ma : Nat) (wg : Bool) (c1 : ClassId) (X : Nat → Int32) (kind : Int32) (hz : mz ≤ 242) (ha : ma ≤ 880) : Met l yX5_yearOfText wsX5_yearOfText ({ frames := 2, cells := 0, slots := 0, locals := 43 }) (kc_Pc (dC, dI) kcl st sz [.ref q, .int kind] [(q, .inr (5, [.int th, .ref tx, .int (nI mz), .int fl, .int (bI it), .long al, .ref pt, .int (nI dg), .ref ot, .int (nI wr), .int (nI kz), .ref ka, .ref kd, .ref kp, .int (nI ma), .int (bI wg)])), (tx, .inl (c1, 256, .inl X))] [(c1, .int)]) (kc_Qi (dC, dI) kcl (mYear X mz ma wg kind).1 [(q, .inr (5, [.int th, .ref tx, .int (nI mz), .int fl, .int (bI it), .long al, .ref pt, .int (nI dg), .ref ot, .int (nI wr), .int (nI kz), .ref ka, .ref kd, .ref kp, .int (nI (mYear X mz ma wg kind).2.1), .int (bI (mYear X mz ma wg kind).2.2)])), (tx, .inl (c1, 256, .inl X))] (va_A [(q, .inr (5, [.int th, .ref tx, .int (nI mz), .int fl, .int (bI it), .long al, .ref pt, .int (nI dg), .ref ot, .int (nI wr), .int (nI kz), .ref ka, .ref kd, .ref kp, .int (nI ma), .int (bI wg)])), (tx, .inl (c1, 256, .inl X))] sz)) 0 0 (va_A [(q, .inr (5, [.int th, .ref tx, .int (nI mz), .int fl, .int (bI it), .long al, .ref pt, .int (nI dg), .ref ot, .int (nI wr), .int (nI kz), .ref ka, .ref kd, .ref kp, .int (nI ma), .int (bI wg)])), (tx, .inl (c1, 256, .inl X))] sz) := by
  refine kc_ofW (Qc := fun A => (kc_Qi (dC, dI) kcl (mYear X mz ma wg kind).1 [(q, .inr (5, [.int th, .ref tx, .int (nI mz), .int fl, .int (bI it), .long al, .ref pt, .int (nI dg), .ref ot, .int (nI wr), .int (nI kz), .ref ka, .ref kd, .ref kp, .int (nI (mYear X mz ma wg kind).2.1), .int (bI (mYear X mz ma wg kind).2.2)])), (tx, .inl (c1, 256, .inl X))] A)) (cc := cX5_yearOfText) (maxL := 3) (ret := (some .int)) (by decide) rfl (Nat.le_of_ble_eq_true rfl) ?_
  intro p e s m below meth c A ls Cx hA hG hK hP hD hS hl
  obtain ⟨hx, hb, hr, hml, hown, hts, hlocks, hnm⟩ := id Cx
  have hl : lv_has ls 3 [(0, .ref q), (1, .int kind)] := hl
  refine lv_iload_n hx hb dX5_yearOfText_0 rfl (lv_at hl 1 rfl) ?_
  refine lv_if_eq (tgt := 10) hx hb dX5_yearOfText_1 (by decide) (fun c_1 => ?_) (fun c_1 => ?_)
  · refine lv_aload_n hx hb dX5_yearOfText_10 rfl (lv_at hl 0 rfl) ?_
    refine lv_iconst (v := 2) hx hb dX5_yearOfText_11 (by decide) ?_
    have hPc := hP.sub (ws' := [(q, .inr (5, [.int th, .ref tx, .int (nI mz), .int fl, .int (bI it), .long al, .ref pt, .int (nI dg), .ref ot, .int (nI wr), .int (nI kz), .ref ka, .ref kd, .ref kp, .int (nI ma), .int (bI wg)])), (tx, .inl (c1, 256, .inl X))]) [0, 1] rfl
    have hDc := hD.sub (ws' := [(q, .inr (5, [.int th, .ref tx, .int (nI mz), .int fl, .int (bI it), .long al, .ref pt, .int (nI dg), .ref ot, .int (nI wr), .int (nI kz), .ref ka, .ref kd, .ref kp, .int (nI ma), .int (bI wg)])), (tx, .inl (c1, 256, .inl X))]) [0, 1] (by decide) rfl
    have hKc := hK.sub (tys' := [(c1, .int)]) [0] rfl
    have hFc := va_free (wc := [(q, .inr (5, [.int th, .ref tx, .int (nI mz), .int fl, .int (bI it), .long al, .ref pt, .int (nI dg), .ref ot, .int (nI wr), .int (nI kz), .ref ka, .ref kd, .ref kp, .int (nI ma), .int (bI wg)])), (tx, .inl (c1, 256, .inl X))]) hD hS hA [0, 1] rfl
    refine kc_calli (val := (mNumL X mz 2 0 ma wg).1) (wr := []) (w1 := [(q, .inr (5, [.int th, .ref tx, .int (nI mz), .int fl, .int (bI it), .long al, .ref pt, .int (nI dg), .ref ot, .int (nI wr), .int (nI kz), .ref ka, .ref kd, .ref kp, .int (nI (mNumL X mz 2 0 ma wg).2.1), .int (bI (mNumL X mz 2 0 ma wg).2.2)])), (tx, .inl (c1, 256, .inl X))]) (va_runV (As := [.int 2]) (rest := []) ⟨hx, hb, hml, hown, hts⟩ (m_number l dC dI st s.heap.size q th tx mz fl it al pt dg ot wr kz ka kd kp ma wg c1 X 2 hz (by decide) (by omega)) (cwV 1 hts (kwV kwm_232 kwm_233 kwm_234 kwm_203 kwm_231) rfl rfl rfl (by decide +kernel) ⟨Nat.le_of_ble_eq_true rfl, Nat.le_of_ble_eq_true rfl⟩) ⟨kc_blind, va_recv hKc hPc (ci := 5) (q0 := 0) rfl rfl, kc_pre hG hS hFc hKc hPc hDc⟩ rfl rfl hl.1 rfl (lv_room (Nat.le_of_ble_eq_true rfl)) dX5_yearOfText_12 ⟨Nat.le_of_ble_eq_true rfl, Nat.le_of_ble_eq_true rfl⟩) hP hD hS hFc [0, 1] [] rfl rfl (by decide) (by decide) (fun H locs hP hD hS => ?_)
    have hP : va_P (dC, dI) kcl [(q, .inr (5, [.int th, .ref tx, .int (nI mz), .int fl, .int (bI it), .long al, .ref pt, .int (nI dg), .ref ot, .int (nI wr), .int (nI kz), .ref ka, .ref kd, .ref kp, .int (nI (mNumL X mz 2 0 ma wg).2.1), .int (bI (mNumL X mz 2 0 ma wg).2.2)])), (tx, .inl (c1, 256, .inl X))] H := hP
    have hD : va_D A [(q, .inr (5, [.int th, .ref tx, .int (nI mz), .int fl, .int (bI it), .long al, .ref pt, .int (nI dg), .ref ot, .int (nI wr), .int (nI kz), .ref ka, .ref kd, .ref kp, .int (nI (mNumL X mz 2 0 ma wg).2.1), .int (bI (mNumL X mz 2 0 ma wg).2.2)])), (tx, .inl (c1, 256, .inl X))] := hD
    generalize e_12 : mNumL X mz 2 0 ma wg = v_12 at hP hD ⊢
    have hP : va_P (dC, dI) kcl [(q, .inr (5, [.int th, .ref tx, .int (nI mz), .int fl, .int (bI it), .long al, .ref pt, .int (nI dg), .ref ot, .int (nI wr), .int (nI kz), .ref ka, .ref kd, .ref kp, .int (nI v_12.2.1), .int (bI v_12.2.2)])), (tx, .inl (c1, 256, .inl X))] H := hP
    have hD : va_D A [(q, .inr (5, [.int th, .ref tx, .int (nI mz), .int fl, .int (bI it), .long al, .ref pt, .int (nI dg), .ref ot, .int (nI wr), .int (nI kz), .ref ka, .ref kd, .ref kp, .int (nI v_12.2.1), .int (bI v_12.2.2)])), (tx, .inl (c1, 256, .inl X))] := hD
    refine lv_istore_n (lv' := [(2, .int v_12.1), (0, .ref q), (1, .int kind)]) hx hb dX5_yearOfText_15 rfl hl (by decide) rfl (fun ls hl => ?_)
    refine lv_iload_n hx hb dX5_yearOfText_16 rfl (lv_at hl 0 rfl) ?_
    refine lv_bipush (v := 50) hx hb dX5_yearOfText_17 (by decide) ?_
    refine lv_icmp_ge (tgt := 30) hx hb dX5_yearOfText_19 (by decide) (fun c_19 => ?_) (fun c_19 => ?_)
    · refine lv_sipush (v := 1900) hx hb dX5_yearOfText_30 (by decide) ?_
      refine lv_iload_n hx hb dX5_yearOfText_33 rfl (lv_at hl 0 rfl) ?_
      refine lv_iadd hx hb dX5_yearOfText_34 ?_
      have hF9 : mYear X mz ma wg kind = (1900 + v_12.1, v_12.2.1, v_12.2.2) := by
        subst e_12
        first | (simp only [mYear, if_pos c_1, if_pos c_19]; done) | rfl
      have hP9 : va_P (dC, dI) kcl [(q, .inr (5, [.int th, .ref tx, .int (nI mz), .int fl, .int (bI it), .long al, .ref pt, .int (nI dg), .ref ot, .int (nI wr), .int (nI kz), .ref ka, .ref kd, .ref kp, .int (nI (mYear X mz ma wg kind).2.1), .int (bI (mYear X mz ma wg kind).2.2)])), (tx, .inl (c1, 256, .inl X))] H := by
        try rw [hF9]
        exact hP.sub [0, 1] rfl
      have hD9 : va_D A [(q, .inr (5, [.int th, .ref tx, .int (nI mz), .int fl, .int (bI it), .long al, .ref pt, .int (nI dg), .ref ot, .int (nI wr), .int (nI kz), .ref ka, .ref kd, .ref kp, .int (nI (mYear X mz ma wg kind).2.1), .int (bI (mYear X mz ma wg kind).2.2)])), (tx, .inl (c1, 256, .inl X))] := by
        try rw [hF9]
        exact hD.sub [0, 1] (by decide) rfl
      have hv9 : 1900 + v_12.1 = (mYear X mz ma wg kind).1 := by
        try rw [hF9]
        try rfl
      exact kc_iret hx hb hr hlocks hv9 hP9 hD9 hS dX5_yearOfText_35
    · refine lv_sipush (v := 2000) hx hb dX5_yearOfText_22 (by decide) ?_
      refine lv_iload_n hx hb dX5_yearOfText_25 rfl (lv_at hl 0 rfl) ?_
      refine lv_iadd hx hb dX5_yearOfText_26 ?_
      refine lv_goto (tgt := 35) hx hb dX5_yearOfText_27 (by decide) ?_
      have hF9 : mYear X mz ma wg kind = (2000 + v_12.1, v_12.2.1, v_12.2.2) := by
        subst e_12
        first | (simp only [mYear, if_pos c_1, if_neg c_19]; done) | rfl
      have hP9 : va_P (dC, dI) kcl [(q, .inr (5, [.int th, .ref tx, .int (nI mz), .int fl, .int (bI it), .long al, .ref pt, .int (nI dg), .ref ot, .int (nI wr), .int (nI kz), .ref ka, .ref kd, .ref kp, .int (nI (mYear X mz ma wg kind).2.1), .int (bI (mYear X mz ma wg kind).2.2)])), (tx, .inl (c1, 256, .inl X))] H := by
        try rw [hF9]
        exact hP.sub [0, 1] rfl
      have hD9 : va_D A [(q, .inr (5, [.int th, .ref tx, .int (nI mz), .int fl, .int (bI it), .long al, .ref pt, .int (nI dg), .ref ot, .int (nI wr), .int (nI kz), .ref ka, .ref kd, .ref kp, .int (nI (mYear X mz ma wg kind).2.1), .int (bI (mYear X mz ma wg kind).2.2)])), (tx, .inl (c1, 256, .inl X))] := by
        try rw [hF9]
        exact hD.sub [0, 1] (by decide) rfl
      have hv9 : 2000 + v_12.1 = (mYear X mz ma wg kind).1 := by
        try rw [hF9]
        try rfl
      exact kc_iret hx hb hr hlocks hv9 hP9 hD9 hS dX5_yearOfText_35
  · refine lv_aload_n hx hb dX5_yearOfText_4 rfl (lv_at hl 0 rfl) ?_
    refine lv_iconst (v := 4) hx hb dX5_yearOfText_5 (by decide) ?_
    have hPc := hP.sub (ws' := [(q, .inr (5, [.int th, .ref tx, .int (nI mz), .int fl, .int (bI it), .long al, .ref pt, .int (nI dg), .ref ot, .int (nI wr), .int (nI kz), .ref ka, .ref kd, .ref kp, .int (nI ma), .int (bI wg)])), (tx, .inl (c1, 256, .inl X))]) [0, 1] rfl
    have hDc := hD.sub (ws' := [(q, .inr (5, [.int th, .ref tx, .int (nI mz), .int fl, .int (bI it), .long al, .ref pt, .int (nI dg), .ref ot, .int (nI wr), .int (nI kz), .ref ka, .ref kd, .ref kp, .int (nI ma), .int (bI wg)])), (tx, .inl (c1, 256, .inl X))]) [0, 1] (by decide) rfl
    have hKc := hK.sub (tys' := [(c1, .int)]) [0] rfl
    have hFc := va_free (wc := [(q, .inr (5, [.int th, .ref tx, .int (nI mz), .int fl, .int (bI it), .long al, .ref pt, .int (nI dg), .ref ot, .int (nI wr), .int (nI kz), .ref ka, .ref kd, .ref kp, .int (nI ma), .int (bI wg)])), (tx, .inl (c1, 256, .inl X))]) hD hS hA [0, 1] rfl
    refine kc_calli (val := (mNumL X mz 4 0 ma wg).1) (wr := []) (w1 := [(q, .inr (5, [.int th, .ref tx, .int (nI mz), .int fl, .int (bI it), .long al, .ref pt, .int (nI dg), .ref ot, .int (nI wr), .int (nI kz), .ref ka, .ref kd, .ref kp, .int (nI (mNumL X mz 4 0 ma wg).2.1), .int (bI (mNumL X mz 4 0 ma wg).2.2)])), (tx, .inl (c1, 256, .inl X))]) (va_runV (As := [.int 4]) (rest := []) ⟨hx, hb, hml, hown, hts⟩ (m_number l dC dI st s.heap.size q th tx mz fl it al pt dg ot wr kz ka kd kp ma wg c1 X 4 hz (by decide) (by omega)) (cwV 1 hts (kwV kwm_232 kwm_233 kwm_234 kwm_203 kwm_231) rfl rfl rfl (by decide +kernel) ⟨Nat.le_of_ble_eq_true rfl, Nat.le_of_ble_eq_true rfl⟩) ⟨kc_blind, va_recv hKc hPc (ci := 5) (q0 := 0) rfl rfl, kc_pre hG hS hFc hKc hPc hDc⟩ rfl rfl hl.1 rfl (lv_room (Nat.le_of_ble_eq_true rfl)) dX5_yearOfText_6 ⟨Nat.le_of_ble_eq_true rfl, Nat.le_of_ble_eq_true rfl⟩) hP hD hS hFc [0, 1] [] rfl rfl (by decide) (by decide) (fun H locs hP hD hS => ?_)
    have hP : va_P (dC, dI) kcl [(q, .inr (5, [.int th, .ref tx, .int (nI mz), .int fl, .int (bI it), .long al, .ref pt, .int (nI dg), .ref ot, .int (nI wr), .int (nI kz), .ref ka, .ref kd, .ref kp, .int (nI (mNumL X mz 4 0 ma wg).2.1), .int (bI (mNumL X mz 4 0 ma wg).2.2)])), (tx, .inl (c1, 256, .inl X))] H := hP
    have hD : va_D A [(q, .inr (5, [.int th, .ref tx, .int (nI mz), .int fl, .int (bI it), .long al, .ref pt, .int (nI dg), .ref ot, .int (nI wr), .int (nI kz), .ref ka, .ref kd, .ref kp, .int (nI (mNumL X mz 4 0 ma wg).2.1), .int (bI (mNumL X mz 4 0 ma wg).2.2)])), (tx, .inl (c1, 256, .inl X))] := hD
    generalize e_6 : mNumL X mz 4 0 ma wg = v_6 at hP hD ⊢
    have hP : va_P (dC, dI) kcl [(q, .inr (5, [.int th, .ref tx, .int (nI mz), .int fl, .int (bI it), .long al, .ref pt, .int (nI dg), .ref ot, .int (nI wr), .int (nI kz), .ref ka, .ref kd, .ref kp, .int (nI v_6.2.1), .int (bI v_6.2.2)])), (tx, .inl (c1, 256, .inl X))] H := hP
    have hD : va_D A [(q, .inr (5, [.int th, .ref tx, .int (nI mz), .int fl, .int (bI it), .long al, .ref pt, .int (nI dg), .ref ot, .int (nI wr), .int (nI kz), .ref ka, .ref kd, .ref kp, .int (nI v_6.2.1), .int (bI v_6.2.2)])), (tx, .inl (c1, 256, .inl X))] := hD
    have hF9 : mYear X mz ma wg kind = (v_6.1, v_6.2.1, v_6.2.2) := by
      subst e_6
      first | (simp only [mYear, if_neg c_1]; done) | rfl
    have hP9 : va_P (dC, dI) kcl [(q, .inr (5, [.int th, .ref tx, .int (nI mz), .int fl, .int (bI it), .long al, .ref pt, .int (nI dg), .ref ot, .int (nI wr), .int (nI kz), .ref ka, .ref kd, .ref kp, .int (nI (mYear X mz ma wg kind).2.1), .int (bI (mYear X mz ma wg kind).2.2)])), (tx, .inl (c1, 256, .inl X))] H := by
      try rw [hF9]
      exact hP.sub [0, 1] rfl
    have hD9 : va_D A [(q, .inr (5, [.int th, .ref tx, .int (nI mz), .int fl, .int (bI it), .long al, .ref pt, .int (nI dg), .ref ot, .int (nI wr), .int (nI kz), .ref ka, .ref kd, .ref kp, .int (nI (mYear X mz ma wg kind).2.1), .int (bI (mYear X mz ma wg kind).2.2)])), (tx, .inl (c1, 256, .inl X))] := by
      try rw [hF9]
      exact hD.sub [0, 1] (by decide) rfl
    have hv9 : v_6.1 = (mYear X mz ma wg kind).1 := by
      try rw [hF9]
      try rfl
    exact kc_iret hx hb hr hlocks hv9 hP9 hD9 hS dX5_yearOfText_9
