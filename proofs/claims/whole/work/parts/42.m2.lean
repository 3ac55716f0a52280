abbrev cX5_dayNow : ByteArray := prog_7_method_11_code
def yX5_dayNow : MethodName := ⟨RX5, "dayNow", "()I"⟩
abbrev cX5_dayOf : ByteArray := prog_7_method_9_code
def yX5_dayOf : MethodName := ⟨RX5, "dayOf", "(III)I"⟩
abbrev cX5_end : ByteArray := prog_7_method_5_code
def yX5_end : MethodName := ⟨RX5, "end", "(I)I"⟩
abbrev cX5_feed : ByteArray := prog_7_method_4_code
def yX5_feed : MethodName := ⟨RX5, "feed", "(IIII)I"⟩
abbrev cX5_yearOf : ByteArray := prog_7_method_10_code
def yX5_yearOf : MethodName := ⟨RX5, "yearOf", "(I)I"⟩
abbrev wsX5_dayNow : List Cond := .code yX5_dayNow cX5_dayNow 1 (some .int) :: kw
abbrev wsX5_dayOf : List Cond := .code yX5_dayOf cX5_dayOf 5 (some .int) :: kw
abbrev wsX5_end : List Cond := .code yX5_end cX5_end 2 (some .int) :: kw
abbrev wsX5_feed : List Cond := .code yX5_feed cX5_feed 5 (some .int) :: kw
abbrev wsX5_yearOf : List Cond := .code yX5_yearOf cX5_yearOf 2 (some .int) :: kw
theorem kwm_207 : (.code yX5_add cX5_add 3 none : Cond) ∈ kw := kw_in (i := 589) (by decide +kernel) (by decide +kernel)
theorem kwm_208 : (.methodLink RX5 36 yX5_add : Cond) ∈ kw := kw_in (i := 586) (by decide +kernel) (by decide +kernel)
theorem kwm_209 : (.instanceMethod yX5_add : Cond) ∈ kw := kw_in (i := 588) (by decide +kernel) (by decide +kernel)
theorem kwm_210 : (.selects RX5 yX5_add yX5_add : Cond) ∈ kw := kw_in (i := 15) (by decide +kernel) (by decide +kernel)
theorem kwm_211 : (.code yX5_daysOf cX5_daysOf 2 (some .int) : Cond) ∈ kw := kw_in (i := 620) (by decide +kernel) (by decide +kernel)
theorem kwm_212 : (.methodLink RX5 48 yX5_daysOf : Cond) ∈ kw := kw_in (i := 618) (by decide +kernel) (by decide +kernel)
theorem kwm_213 : (.static yX5_daysOf : Cond) ∈ kw := kw_in (i := 619) (by decide +kernel) (by decide +kernel)
theorem kwm_214 : (.code yX5_daysTo cX5_daysTo 1 (some .int) : Cond) ∈ kw := kw_in (i := 646) (by decide +kernel) (by decide +kernel)
theorem kwm_215 : (.methodLink RX5 44 yX5_daysTo : Cond) ∈ kw := kw_in (i := 644) (by decide +kernel) (by decide +kernel)
theorem kwm_216 : (.static yX5_daysTo : Cond) ∈ kw := kw_in (i := 645) (by decide +kernel) (by decide +kernel)
theorem kwm_217 : (.fieldLink RX5 52 "ClockTextsModel" "all" "J" : Cond) ∈ kw := kw_in (i := 534) (by decide +kernel) (by decide +kernel)
theorem kwm_218 : (.constantLong RX5 56 86400 : Cond) ∈ kw := kw_in (i := 640) (by decide +kernel) (by decide +kernel)
theorem dX5_feed_0 : decode cX5_feed 0 = .ok (.aload_n 0, 1) := by decide +kernel
theorem dX5_feed_1 : decode cX5_feed 1 = .ok (.aload_n 0, 1) := by decide +kernel
theorem dX5_feed_2 : decode cX5_feed 2 = .ok (.getfield 33, 3) := by decide +kernel
theorem dX5_feed_5 : decode cX5_feed 5 = .ok (.bipush 16, 2) := by decide +kernel
theorem dX5_feed_7 : decode cX5_feed 7 = .ok (.iadd, 1) := by decide +kernel
theorem dX5_feed_8 : decode cX5_feed 8 = .ok (.sipush 240, 3) := by decide +kernel
theorem dX5_feed_11 : decode cX5_feed 11 = .ok (.if_icmp .le 7, 3) := by decide +kernel
theorem dX5_feed_14 : decode cX5_feed 14 = .ok (.iconst 1, 1) := by decide +kernel
theorem dX5_feed_15 : decode cX5_feed 15 = .ok (.goto 4, 3) := by decide +kernel
theorem dX5_feed_18 : decode cX5_feed 18 = .ok (.iconst 0, 1) := by decide +kernel
theorem dX5_feed_19 : decode cX5_feed 19 = .ok (.putfield 29, 3) := by decide +kernel
theorem dX5_feed_22 : decode cX5_feed 22 = .ok (.aload_n 0, 1) := by decide +kernel
theorem dX5_feed_23 : decode cX5_feed 23 = .ok (.getfield 29, 3) := by decide +kernel
theorem dX5_feed_26 : decode cX5_feed 26 = .ok (.ifCond .le 5, 3) := by decide +kernel
theorem dX5_feed_29 : decode cX5_feed 29 = .ok (.iconst 0, 1) := by decide +kernel
theorem dX5_feed_30 : decode cX5_feed 30 = .ok (.ireturn, 1) := by decide +kernel
theorem dX5_feed_31 : decode cX5_feed 31 = .ok (.aload_n 0, 1) := by decide +kernel
theorem dX5_feed_32 : decode cX5_feed 32 = .ok (.iload_n 1, 1) := by decide +kernel
theorem dX5_feed_33 : decode cX5_feed 33 = .ok (.invokevirtual 36, 3) := by decide +kernel
theorem dX5_feed_36 : decode cX5_feed 36 = .ok (.aload_n 0, 1) := by decide +kernel
theorem dX5_feed_37 : decode cX5_feed 37 = .ok (.iload_n 2, 1) := by decide +kernel
theorem dX5_feed_38 : decode cX5_feed 38 = .ok (.invokevirtual 36, 3) := by decide +kernel
theorem dX5_feed_41 : decode cX5_feed 41 = .ok (.aload_n 0, 1) := by decide +kernel
theorem dX5_feed_42 : decode cX5_feed 42 = .ok (.iload_n 3, 1) := by decide +kernel
theorem dX5_feed_43 : decode cX5_feed 43 = .ok (.invokevirtual 36, 3) := by decide +kernel
theorem dX5_feed_46 : decode cX5_feed 46 = .ok (.aload_n 0, 1) := by decide +kernel
theorem dX5_feed_47 : decode cX5_feed 47 = .ok (.iload 4, 2) := by decide +kernel
theorem dX5_feed_49 : decode cX5_feed 49 = .ok (.invokevirtual 36, 3) := by decide +kernel
theorem dX5_feed_52 : decode cX5_feed 52 = .ok (.aload_n 0, 1) := by decide +kernel
theorem dX5_feed_53 : decode cX5_feed 53 = .ok (.getfield 33, 3) := by decide +kernel
theorem dX5_feed_56 : decode cX5_feed 56 = .ok (.ireturn, 1) := by decide +kernel
theorem dX5_end_0 : decode cX5_end 0 = .ok (.aload_n 0, 1) := by decide +kernel
theorem dX5_end_1 : decode cX5_end 1 = .ok (.iload_n 1, 1) := by decide +kernel
theorem dX5_end_2 : decode cX5_end 2 = .ok (.ifCond .lt 9, 3) := by decide +kernel
theorem dX5_end_5 : decode cX5_end 5 = .ok (.iload_n 1, 1) := by decide +kernel
theorem dX5_end_6 : decode cX5_end 6 = .ok (.bipush 16, 2) := by decide +kernel
theorem dX5_end_8 : decode cX5_end 8 = .ok (.if_icmp .le 7, 3) := by decide +kernel
theorem dX5_end_11 : decode cX5_end 11 = .ok (.iconst 1, 1) := by decide +kernel
theorem dX5_end_12 : decode cX5_end 12 = .ok (.goto 17, 3) := by decide +kernel
theorem dX5_end_15 : decode cX5_end 15 = .ok (.aload_n 0, 1) := by decide +kernel
theorem dX5_end_16 : decode cX5_end 16 = .ok (.getfield 33, 3) := by decide +kernel
theorem dX5_end_19 : decode cX5_end 19 = .ok (.bipush 16, 2) := by decide +kernel
theorem dX5_end_21 : decode cX5_end 21 = .ok (.if_icmp .ge 7, 3) := by decide +kernel
theorem dX5_end_24 : decode cX5_end 24 = .ok (.iconst 2, 1) := by decide +kernel
theorem dX5_end_25 : decode cX5_end 25 = .ok (.goto 4, 3) := by decide +kernel
theorem dX5_end_28 : decode cX5_end 28 = .ok (.iconst 0, 1) := by decide +kernel
theorem dX5_end_29 : decode cX5_end 29 = .ok (.putfield 29, 3) := by decide +kernel
theorem dX5_end_32 : decode cX5_end 32 = .ok (.aload_n 0, 1) := by decide +kernel
theorem dX5_end_33 : decode cX5_end 33 = .ok (.getfield 29, 3) := by decide +kernel
theorem dX5_end_36 : decode cX5_end 36 = .ok (.ifCond .le 5, 3) := by decide +kernel
theorem dX5_end_39 : decode cX5_end 39 = .ok (.iconst 0, 1) := by decide +kernel
theorem dX5_end_40 : decode cX5_end 40 = .ok (.ireturn, 1) := by decide +kernel
theorem dX5_end_41 : decode cX5_end 41 = .ok (.aload_n 0, 1) := by decide +kernel
theorem dX5_end_42 : decode cX5_end 42 = .ok (.aload_n 0, 1) := by decide +kernel
theorem dX5_end_43 : decode cX5_end 43 = .ok (.getfield 33, 3) := by decide +kernel
theorem dX5_end_46 : decode cX5_end 46 = .ok (.bipush 16, 2) := by decide +kernel
theorem dX5_end_48 : decode cX5_end 48 = .ok (.isub, 1) := by decide +kernel
theorem dX5_end_49 : decode cX5_end 49 = .ok (.iload_n 1, 1) := by decide +kernel
theorem dX5_end_50 : decode cX5_end 50 = .ok (.iadd, 1) := by decide +kernel
theorem dX5_end_51 : decode cX5_end 51 = .ok (.putfield 33, 3) := by decide +kernel
theorem dX5_end_54 : decode cX5_end 54 = .ok (.aload_n 0, 1) := by decide +kernel
theorem dX5_end_55 : decode cX5_end 55 = .ok (.getfield 33, 3) := by decide +kernel
theorem dX5_end_58 : decode cX5_end 58 = .ok (.ireturn, 1) := by decide +kernel
theorem dX5_dayOf_0 : decode cX5_dayOf 0 = .ok (.iload_n 0, 1) := by decide +kernel
theorem dX5_dayOf_1 : decode cX5_dayOf 1 = .ok (.invokestatic 44, 3) := by decide +kernel
theorem dX5_dayOf_4 : decode cX5_dayOf 4 = .ok (.iload_n 2, 1) := by decide +kernel
theorem dX5_dayOf_5 : decode cX5_dayOf 5 = .ok (.iadd, 1) := by decide +kernel
theorem dX5_dayOf_6 : decode cX5_dayOf 6 = .ok (.iconst 1, 1) := by decide +kernel
theorem dX5_dayOf_7 : decode cX5_dayOf 7 = .ok (.isub, 1) := by decide +kernel
theorem dX5_dayOf_8 : decode cX5_dayOf 8 = .ok (.istore_n 3, 1) := by decide +kernel
theorem dX5_dayOf_9 : decode cX5_dayOf 9 = .ok (.iconst 1, 1) := by decide +kernel
theorem dX5_dayOf_10 : decode cX5_dayOf 10 = .ok (.istore 4, 2) := by decide +kernel
theorem dX5_dayOf_12 : decode cX5_dayOf 12 = .ok (.iload 4, 2) := by decide +kernel
theorem dX5_dayOf_14 : decode cX5_dayOf 14 = .ok (.iload_n 1, 1) := by decide +kernel
theorem dX5_dayOf_15 : decode cX5_dayOf 15 = .ok (.if_icmp .ge 18, 3) := by decide +kernel
theorem dX5_dayOf_18 : decode cX5_dayOf 18 = .ok (.iload_n 3, 1) := by decide +kernel
theorem dX5_dayOf_19 : decode cX5_dayOf 19 = .ok (.iload_n 0, 1) := by decide +kernel
theorem dX5_dayOf_20 : decode cX5_dayOf 20 = .ok (.iload 4, 2) := by decide +kernel
theorem dX5_dayOf_22 : decode cX5_dayOf 22 = .ok (.invokestatic 48, 3) := by decide +kernel
theorem dX5_dayOf_25 : decode cX5_dayOf 25 = .ok (.iadd, 1) := by decide +kernel
theorem dX5_dayOf_26 : decode cX5_dayOf 26 = .ok (.istore_n 3, 1) := by decide +kernel
theorem dX5_dayOf_27 : decode cX5_dayOf 27 = .ok (.iinc 4 1, 3) := by decide +kernel
theorem dX5_dayOf_30 : decode cX5_dayOf 30 = .ok (.goto (-18), 3) := by decide +kernel
theorem dX5_dayOf_33 : decode cX5_dayOf 33 = .ok (.iload_n 3, 1) := by decide +kernel
theorem dX5_dayOf_34 : decode cX5_dayOf 34 = .ok (.ireturn, 1) := by decide +kernel
theorem dX5_yearOf_0 : decode cX5_yearOf 0 = .ok (.iload_n 0, 1) := by decide +kernel
theorem dX5_yearOf_1 : decode cX5_yearOf 1 = .ok (.sipush 366, 3) := by decide +kernel
theorem dX5_yearOf_4 : decode cX5_yearOf 4 = .ok (.idiv, 1) := by decide +kernel
theorem dX5_yearOf_5 : decode cX5_yearOf 5 = .ok (.istore_n 1, 1) := by decide +kernel
theorem dX5_yearOf_6 : decode cX5_yearOf 6 = .ok (.iload_n 1, 1) := by decide +kernel
theorem dX5_yearOf_7 : decode cX5_yearOf 7 = .ok (.iconst 1, 1) := by decide +kernel
theorem dX5_yearOf_8 : decode cX5_yearOf 8 = .ok (.iadd, 1) := by decide +kernel
theorem dX5_yearOf_9 : decode cX5_yearOf 9 = .ok (.invokestatic 44, 3) := by decide +kernel
theorem dX5_yearOf_12 : decode cX5_yearOf 12 = .ok (.iload_n 0, 1) := by decide +kernel
theorem dX5_yearOf_13 : decode cX5_yearOf 13 = .ok (.if_icmp .gt 9, 3) := by decide +kernel
theorem dX5_yearOf_16 : decode cX5_yearOf 16 = .ok (.iinc 1 1, 3) := by decide +kernel
theorem dX5_yearOf_19 : decode cX5_yearOf 19 = .ok (.goto (-13), 3) := by decide +kernel
theorem dX5_yearOf_22 : decode cX5_yearOf 22 = .ok (.iload_n 1, 1) := by decide +kernel
theorem dX5_yearOf_23 : decode cX5_yearOf 23 = .ok (.ireturn, 1) := by decide +kernel
theorem dX5_dayNow_0 : decode cX5_dayNow 0 = .ok (.aload_n 0, 1) := by decide +kernel
theorem dX5_dayNow_1 : decode cX5_dayNow 1 = .ok (.getfield 52, 3) := by decide +kernel
theorem dX5_dayNow_4 : decode cX5_dayNow 4 = .ok (.ldc2_w 56, 3) := by decide +kernel
theorem dX5_dayNow_7 : decode cX5_dayNow 7 = .ok (.ldiv, 1) := by decide +kernel
theorem dX5_dayNow_8 : decode cX5_dayNow 8 = .ok (.l2i, 1) := by decide +kernel
theorem dX5_dayNow_9 : decode cX5_dayNow 9 = .ok (.ireturn, 1) := by decide +kernel
def mFeed (X : Nat → Int32) (mz : Nat) (p1 p2 p3 p4 : Int32) : Int32 × Int32 × (Nat → Int32) × Nat :=
  if (nI (mz + 16)) ≤ 240 then
    let v_33 := mAdd X mz p1
    let v_38 := mAdd v_33.1 v_33.2 p2
    let v_43 := mAdd v_38.1 v_38.2 p3
    let v_49 := mAdd v_43.1 v_43.2 p4
    (nI v_49.2, 0, v_49.1, v_49.2)
  else
    (0, 1, X, mz)
set_option maxHeartbeats 4000000 in
set_option maxRecDepth 100000 in
theorem m_feed (l : Launch) (dC : Nat → ClassId) (dI : Nat → Nat → Nat) (st sz : Nat) (q : Nat) (th : Int32) (tx : Nat) (mz : Nat) (fl : Int32) (it : Bool) (al : Int64) (pt : Nat) (dg : Nat) (ot : Nat) (wr : Nat) (kz : Nat) (ka : Nat) (kd : Nat) (kp : Nat) (ma : Nat) (wg : Bool) (c1 : ClassId) (X : Nat → Int32) (p1 : Int32) (p2 : Int32) (p3 : Int32) (p4 : Int32) (hz : mz ≤ 242) : Met l yX5_feed wsX5_feed ({ frames := 1, cells := 0, slots := 0, locals := 22 }) (kc_Pc (dC, dI) kcl st sz [.ref q, .int p1, .int p2, .int p3, .int p4] [(q, .inr (5, [.int th, .ref tx, .int (nI mz), .int fl, .int (bI it), .long al, .ref pt, .int (nI dg), .ref ot, .int (nI wr), .int (nI kz), .ref ka, .ref kd, .ref kp, .int (nI ma), .int (bI wg)])), (tx, .inl (c1, 256, .inl X))] [(c1, .int)]) (kc_Qi (dC, dI) kcl (mFeed X mz p1 p2 p3 p4).1 [(q, .inr (5, [.int (mFeed X mz p1 p2 p3 p4).2.1, .ref tx, .int (nI (mFeed X mz p1 p2 p3 p4).2.2.2), .int fl, .int (bI it), .long al, .ref pt, .int (nI dg), .ref ot, .int (nI wr), .int (nI kz), .ref ka, .ref kd, .ref kp, .int (nI ma), .int (bI wg)])), (tx, .inl (c1, 256, .inl (mFeed X mz p1 p2 p3 p4).2.2.1))] (va_A [(q, .inr (5, [.int th, .ref tx, .int (nI mz), .int fl, .int (bI it), .long al, .ref pt, .int (nI dg), .ref ot, .int (nI wr), .int (nI kz), .ref ka, .ref kd, .ref kp, .int (nI ma), .int (bI wg)])), (tx, .inl (c1, 256, .inl X))] sz)) 0 0 (va_A [(q, .inr (5, [.int th, .ref tx, .int (nI mz), .int fl, .int (bI it), .long al, .ref pt, .int (nI dg), .ref ot, .int (nI wr), .int (nI kz), .ref ka, .ref kd, .ref kp, .int (nI ma), .int (bI wg)])), (tx, .inl (c1, 256, .inl X))] sz) := by
  refine kc_ofW (Qc := fun A => (kc_Qi (dC, dI) kcl (mFeed X mz p1 p2 p3 p4).1 [(q, .inr (5, [.int (mFeed X mz p1 p2 p3 p4).2.1, .ref tx, .int (nI (mFeed X mz p1 p2 p3 p4).2.2.2), .int fl, .int (bI it), .long al, .ref pt, .int (nI dg), .ref ot, .int (nI wr), .int (nI kz), .ref ka, .ref kd, .ref kp, .int (nI ma), .int (bI wg)])), (tx, .inl (c1, 256, .inl (mFeed X mz p1 p2 p3 p4).2.2.1))] A)) (cc := cX5_feed) (maxL := 5) (ret := (some .int)) (by decide) rfl (Nat.le_of_ble_eq_true rfl) ?_
  intro p e s m below meth c A ls Cx hA hG hK hP hD hS hl
  obtain ⟨hx, hb, hr, hml, hown, hts, hlocks, hnm⟩ := id Cx
  have hl : lv_has ls 5 [(0, .ref q), (1, .int p1), (2, .int p2), (3, .int p3), (4, .int p4)] := hl
  refine lv_aload_n hx hb dX5_feed_0 rfl (lv_at hl 0 rfl) ?_
  refine lv_aload_n hx hb dX5_feed_1 rfl (lv_at hl 0 rfl) ?_
  refine va_get (D := (dC, dI)) (ci := 5) (v := .int (nI mz)) (C := RX5) (T := TX5) (N := 16) hx hb hts kin_5 hown hK hP 0 rfl rfl 2 (by decide) (hts _ (kcm kwm_206)) (fun _ h9 => h9) rfl dX5_feed_2 ?_
  refine lv_bipush (v := 16) hx hb dX5_feed_5 (by decide) ?_
  refine lv_iadd hx hb dX5_feed_7 ?_
  rw [show (nI mz) + 16 = nI (mz + 16) from nI_add mz 16]
  refine lv_sipush (v := 240) hx hb dX5_feed_8 (by decide) ?_
  refine lv_icmp_le (tgt := 18) hx hb dX5_feed_11 (by decide) (fun c_11 => ?_) (fun c_11 => ?_)
  · refine lv_iconst (v := 0) hx hb dX5_feed_18 (by decide) ?_
    refine va_put (D := (dC, dI)) (ci := 5) (v := .int 0) (ty := .int) (C := RX5) (T := TX5) (N := 16) hx hb hts kin_5 tyX5 tyX5_ok nmX5 hown hK hP hD hS 0 rfl rfl 0 (by decide) (hts _ (kcm kwm_204)) (fun _ h9 => h9) rfl (by decide +kernel) rfl rfl (Nat.le_of_ble_eq_true rfl) dX5_feed_19 (fun H locs hP hD hS => ?_)
    have hP : va_P (dC, dI) kcl [(q, .inr (5, [.int 0, .ref tx, .int (nI mz), .int fl, .int (bI it), .long al, .ref pt, .int (nI dg), .ref ot, .int (nI wr), .int (nI kz), .ref ka, .ref kd, .ref kp, .int (nI ma), .int (bI wg)])), (tx, .inl (c1, 256, .inl X))] H := hP
    have hD : va_D A [(q, .inr (5, [.int 0, .ref tx, .int (nI mz), .int fl, .int (bI it), .long al, .ref pt, .int (nI dg), .ref ot, .int (nI wr), .int (nI kz), .ref ka, .ref kd, .ref kp, .int (nI ma), .int (bI wg)])), (tx, .inl (c1, 256, .inl X))] := hD
    refine lv_aload_n hx hb dX5_feed_22 rfl (lv_at hl 0 rfl) ?_
    refine va_get (D := (dC, dI)) (ci := 5) (v := .int 0) (C := RX5) (T := TX5) (N := 16) hx hb hts kin_5 hown hK hP 0 rfl rfl 0 (by decide) (hts _ (kcm kwm_204)) (fun _ h9 => h9) rfl dX5_feed_23 ?_
    refine lv_if_le (tgt := 31) hx hb dX5_feed_26 (by decide) (fun c_26 => ?_) (fun c_26 => ?_)
    · have hz9 : mz + 16 ≤ 240 := (nI_leI (by omega) (by decide)).mp c_11
      refine lv_aload_n hx hb dX5_feed_31 rfl (lv_at hl 0 rfl) ?_
      refine lv_iload_n hx hb dX5_feed_32 rfl (lv_at hl 1 rfl) ?_
      have hPc := hP.sub (ws' := [(q, .inr (5, [.int 0, .ref tx, .int (nI mz), .int fl, .int (bI it), .long al, .ref pt, .int (nI dg), .ref ot, .int (nI wr), .int (nI kz), .ref ka, .ref kd, .ref kp, .int (nI ma), .int (bI wg)])), (tx, .inl (c1, 256, .inl X))]) [0, 1] rfl
      have hDc := hD.sub (ws' := [(q, .inr (5, [.int 0, .ref tx, .int (nI mz), .int fl, .int (bI it), .long al, .ref pt, .int (nI dg), .ref ot, .int (nI wr), .int (nI kz), .ref ka, .ref kd, .ref kp, .int (nI ma), .int (bI wg)])), (tx, .inl (c1, 256, .inl X))]) [0, 1] (by decide) rfl
      have hKc := hK.sub (tys' := [(c1, .int)]) [0] rfl
      have hFc := va_free (wc := [(q, .inr (5, [.int 0, .ref tx, .int (nI mz), .int fl, .int (bI it), .long al, .ref pt, .int (nI dg), .ref ot, .int (nI wr), .int (nI kz), .ref ka, .ref kd, .ref kp, .int (nI ma), .int (bI wg)])), (tx, .inl (c1, 256, .inl X))]) hD hS hA [0, 1] rfl
      refine kc_callv (wr := []) (w1 := [(q, .inr (5, [.int 0, .ref tx, .int (nI (mAdd X mz p1).2), .int fl, .int (bI it), .long al, .ref pt, .int (nI dg), .ref ot, .int (nI wr), .int (nI kz), .ref ka, .ref kd, .ref kp, .int (nI ma), .int (bI wg)])), (tx, .inl (c1, 256, .inl (mAdd X mz p1).1))]) (va_runV (As := [.int p1]) (rest := []) ⟨hx, hb, hml, hown, hts⟩ (m_add l dC dI st H.size q 0 tx mz fl it al pt dg ot wr kz ka kd kp ma wg c1 X p1 (by omega)) (cwV 1 hts (kwV kwm_208 kwm_209 kwm_210 kwm_203 kwm_207) rfl rfl rfl (by decide +kernel) ⟨Nat.le_of_ble_eq_true rfl, Nat.le_of_ble_eq_true rfl⟩) ⟨kc_blind, va_recv hKc hPc (ci := 5) (q0 := 0) rfl rfl, kc_pre hG hS hFc hKc hPc hDc⟩ rfl rfl hl.1 rfl (lv_room (Nat.le_of_ble_eq_true rfl)) dX5_feed_33 ⟨Nat.le_of_ble_eq_true rfl, Nat.le_of_ble_eq_true rfl⟩) hP hD hS hFc [0, 1] [] rfl rfl (by decide) (by decide) (fun H locs hP hD hS => ?_)
      have hP : va_P (dC, dI) kcl [(q, .inr (5, [.int 0, .ref tx, .int (nI (mAdd X mz p1).2), .int fl, .int (bI it), .long al, .ref pt, .int (nI dg), .ref ot, .int (nI wr), .int (nI kz), .ref ka, .ref kd, .ref kp, .int (nI ma), .int (bI wg)])), (tx, .inl (c1, 256, .inl (mAdd X mz p1).1))] H := hP
      have hD : va_D A [(q, .inr (5, [.int 0, .ref tx, .int (nI (mAdd X mz p1).2), .int fl, .int (bI it), .long al, .ref pt, .int (nI dg), .ref ot, .int (nI wr), .int (nI kz), .ref ka, .ref kd, .ref kp, .int (nI ma), .int (bI wg)])), (tx, .inl (c1, 256, .inl (mAdd X mz p1).1))] := hD
      generalize e_33 : mAdd X mz p1 = v_33 at hP hD ⊢
      have hP : va_P (dC, dI) kcl [(q, .inr (5, [.int 0, .ref tx, .int (nI v_33.2), .int fl, .int (bI it), .long al, .ref pt, .int (nI dg), .ref ot, .int (nI wr), .int (nI kz), .ref ka, .ref kd, .ref kp, .int (nI ma), .int (bI wg)])), (tx, .inl (c1, 256, .inl v_33.1))] H := hP
      have hD : va_D A [(q, .inr (5, [.int 0, .ref tx, .int (nI v_33.2), .int fl, .int (bI it), .long al, .ref pt, .int (nI dg), .ref ot, .int (nI wr), .int (nI kz), .ref ka, .ref kd, .ref kp, .int (nI ma), .int (bI wg)])), (tx, .inl (c1, 256, .inl v_33.1))] := hD
      refine lv_aload_n hx hb dX5_feed_36 rfl (lv_at hl 0 rfl) ?_
      refine lv_iload_n hx hb dX5_feed_37 rfl (lv_at hl 2 rfl) ?_
      have hPc := hP.sub (ws' := [(q, .inr (5, [.int 0, .ref tx, .int (nI v_33.2), .int fl, .int (bI it), .long al, .ref pt, .int (nI dg), .ref ot, .int (nI wr), .int (nI kz), .ref ka, .ref kd, .ref kp, .int (nI ma), .int (bI wg)])), (tx, .inl (c1, 256, .inl v_33.1))]) [0, 1] rfl
      have hDc := hD.sub (ws' := [(q, .inr (5, [.int 0, .ref tx, .int (nI v_33.2), .int fl, .int (bI it), .long al, .ref pt, .int (nI dg), .ref ot, .int (nI wr), .int (nI kz), .ref ka, .ref kd, .ref kp, .int (nI ma), .int (bI wg)])), (tx, .inl (c1, 256, .inl v_33.1))]) [0, 1] (by decide) rfl
      have hKc := hK.sub (tys' := [(c1, .int)]) [0] rfl
      have hFc := va_free (wc := [(q, .inr (5, [.int 0, .ref tx, .int (nI v_33.2), .int fl, .int (bI it), .long al, .ref pt, .int (nI dg), .ref ot, .int (nI wr), .int (nI kz), .ref ka, .ref kd, .ref kp, .int (nI ma), .int (bI wg)])), (tx, .inl (c1, 256, .inl v_33.1))]) hD hS hA [0, 1] rfl
      refine kc_callv (wr := []) (w1 := [(q, .inr (5, [.int 0, .ref tx, .int (nI (mAdd v_33.1 v_33.2 p2).2), .int fl, .int (bI it), .long al, .ref pt, .int (nI dg), .ref ot, .int (nI wr), .int (nI kz), .ref ka, .ref kd, .ref kp, .int (nI ma), .int (bI wg)])), (tx, .inl (c1, 256, .inl (mAdd v_33.1 v_33.2 p2).1))]) (va_runV (As := [.int p2]) (rest := []) ⟨hx, hb, hml, hown, hts⟩ (m_add l dC dI st H.size q 0 tx v_33.2 fl it al pt dg ot wr kz ka kd kp ma wg c1 v_33.1 p2 (by rw [← e_33, mAdd_2]; omega)) (cwV 1 hts (kwV kwm_208 kwm_209 kwm_210 kwm_203 kwm_207) rfl rfl rfl (by decide +kernel) ⟨Nat.le_of_ble_eq_true rfl, Nat.le_of_ble_eq_true rfl⟩) ⟨kc_blind, va_recv hKc hPc (ci := 5) (q0 := 0) rfl rfl, kc_pre hG hS hFc hKc hPc hDc⟩ rfl rfl hl.1 rfl (lv_room (Nat.le_of_ble_eq_true rfl)) dX5_feed_38 ⟨Nat.le_of_ble_eq_true rfl, Nat.le_of_ble_eq_true rfl⟩) hP hD hS hFc [0, 1] [] rfl rfl (by decide) (by decide) (fun H locs hP hD hS => ?_)
      have hP : va_P (dC, dI) kcl [(q, .inr (5, [.int 0, .ref tx, .int (nI (mAdd v_33.1 v_33.2 p2).2), .int fl, .int (bI it), .long al, .ref pt, .int (nI dg), .ref ot, .int (nI wr), .int (nI kz), .ref ka, .ref kd, .ref kp, .int (nI ma), .int (bI wg)])), (tx, .inl (c1, 256, .inl (mAdd v_33.1 v_33.2 p2).1))] H := hP
      have hD : va_D A [(q, .inr (5, [.int 0, .ref tx, .int (nI (mAdd v_33.1 v_33.2 p2).2), .int fl, .int (bI it), .long al, .ref pt, .int (nI dg), .ref ot, .int (nI wr), .int (nI kz), .ref ka, .ref kd, .ref kp, .int (nI ma), .int (bI wg)])), (tx, .inl (c1, 256, .inl (mAdd v_33.1 v_33.2 p2).1))] := hD
      generalize e_38 : mAdd v_33.1 v_33.2 p2 = v_38 at hP hD ⊢
      have hP : va_P (dC, dI) kcl [(q, .inr (5, [.int 0, .ref tx, .int (nI v_38.2), .int fl, .int (bI it), .long al, .ref pt, .int (nI dg), .ref ot, .int (nI wr), .int (nI kz), .ref ka, .ref kd, .ref kp, .int (nI ma), .int (bI wg)])), (tx, .inl (c1, 256, .inl v_38.1))] H := hP
      have hD : va_D A [(q, .inr (5, [.int 0, .ref tx, .int (nI v_38.2), .int fl, .int (bI it), .long al, .ref pt, .int (nI dg), .ref ot, .int (nI wr), .int (nI kz), .ref ka, .ref kd, .ref kp, .int (nI ma), .int (bI wg)])), (tx, .inl (c1, 256, .inl v_38.1))] := hD
      refine lv_aload_n hx hb dX5_feed_41 rfl (lv_at hl 0 rfl) ?_
      refine lv_iload_n hx hb dX5_feed_42 rfl (lv_at hl 3 rfl) ?_
      have hPc := hP.sub (ws' := [(q, .inr (5, [.int 0, .ref tx, .int (nI v_38.2), .int fl, .int (bI it), .long al, .ref pt, .int (nI dg), .ref ot, .int (nI wr), .int (nI kz), .ref ka, .ref kd, .ref kp, .int (nI ma), .int (bI wg)])), (tx, .inl (c1, 256, .inl v_38.1))]) [0, 1] rfl
      have hDc := hD.sub (ws' := [(q, .inr (5, [.int 0, .ref tx, .int (nI v_38.2), .int fl, .int (bI it), .long al, .ref pt, .int (nI dg), .ref ot, .int (nI wr), .int (nI kz), .ref ka, .ref kd, .ref kp, .int (nI ma), .int (bI wg)])), (tx, .inl (c1, 256, .inl v_38.1))]) [0, 1] (by decide) rfl
      have hKc := hK.sub (tys' := [(c1, .int)]) [0] rfl
      have hFc := va_free (wc := [(q, .inr (5, [.int 0, .ref tx, .int (nI v_38.2), .int fl, .int (bI it), .long al, .ref pt, .int (nI dg), .ref ot, .int (nI wr), .int (nI kz), .ref ka, .ref kd, .ref kp, .int (nI ma), .int (bI wg)])), (tx, .inl (c1, 256, .inl v_38.1))]) hD hS hA [0, 1] rfl
      refine kc_callv (wr := []) (w1 := [(q, .inr (5, [.int 0, .ref tx, .int (nI (mAdd v_38.1 v_38.2 p3).2), .int fl, .int (bI it), .long al, .ref pt, .int (nI dg), .ref ot, .int (nI wr), .int (nI kz), .ref ka, .ref kd, .ref kp, .int (nI ma), .int (bI wg)])), (tx, .inl (c1, 256, .inl (mAdd v_38.1 v_38.2 p3).1))]) (va_runV (As := [.int p3]) (rest := []) ⟨hx, hb, hml, hown, hts⟩ (m_add l dC dI st H.size q 0 tx v_38.2 fl it al pt dg ot wr kz ka kd kp ma wg c1 v_38.1 p3 (by rw [← e_38, mAdd_2, ← e_33, mAdd_2]; omega)) (cwV 1 hts (kwV kwm_208 kwm_209 kwm_210 kwm_203 kwm_207) rfl rfl rfl (by decide +kernel) ⟨Nat.le_of_ble_eq_true rfl, Nat.le_of_ble_eq_true rfl⟩) ⟨kc_blind, va_recv hKc hPc (ci := 5) (q0 := 0) rfl rfl, kc_pre hG hS hFc hKc hPc hDc⟩ rfl rfl hl.1 rfl (lv_room (Nat.le_of_ble_eq_true rfl)) dX5_feed_43 ⟨Nat.le_of_ble_eq_true rfl, Nat.le_of_ble_eq_true rfl⟩) hP hD hS hFc [0, 1] [] rfl rfl (by decide) (by decide) (fun H locs hP hD hS => ?_)
      have hP : va_P (dC, dI) kcl [(q, .inr (5, [.int 0, .ref tx, .int (nI (mAdd v_38.1 v_38.2 p3).2), .int fl, .int (bI it), .long al, .ref pt, .int (nI dg), .ref ot, .int (nI wr), .int (nI kz), .ref ka, .ref kd, .ref kp, .int (nI ma), .int (bI wg)])), (tx, .inl (c1, 256, .inl (mAdd v_38.1 v_38.2 p3).1))] H := hP
      have hD : va_D A [(q, .inr (5, [.int 0, .ref tx, .int (nI (mAdd v_38.1 v_38.2 p3).2), .int fl, .int (bI it), .long al, .ref pt, .int (nI dg), .ref ot, .int (nI wr), .int (nI kz), .ref ka, .ref kd, .ref kp, .int (nI ma), .int (bI wg)])), (tx, .inl (c1, 256, .inl (mAdd v_38.1 v_38.2 p3).1))] := hD
      generalize e_43 : mAdd v_38.1 v_38.2 p3 = v_43 at hP hD ⊢
      have hP : va_P (dC, dI) kcl [(q, .inr (5, [.int 0, .ref tx, .int (nI v_43.2), .int fl, .int (bI it), .long al, .ref pt, .int (nI dg), .ref ot, .int (nI wr), .int (nI kz), .ref ka, .ref kd, .ref kp, .int (nI ma), .int (bI wg)])), (tx, .inl (c1, 256, .inl v_43.1))] H := hP
      have hD : va_D A [(q, .inr (5, [.int 0, .ref tx, .int (nI v_43.2), .int fl, .int (bI it), .long al, .ref pt, .int (nI dg), .ref ot, .int (nI wr), .int (nI kz), .ref ka, .ref kd, .ref kp, .int (nI ma), .int (bI wg)])), (tx, .inl (c1, 256, .inl v_43.1))] := hD
      refine lv_aload_n hx hb dX5_feed_46 rfl (lv_at hl 0 rfl) ?_
      refine lv_iload hx hb dX5_feed_47 (lv_at hl 4 rfl) ?_
      have hPc := hP.sub (ws' := [(q, .inr (5, [.int 0, .ref tx, .int (nI v_43.2), .int fl, .int (bI it), .long al, .ref pt, .int (nI dg), .ref ot, .int (nI wr), .int (nI kz), .ref ka, .ref kd, .ref kp, .int (nI ma), .int (bI wg)])), (tx, .inl (c1, 256, .inl v_43.1))]) [0, 1] rfl
      have hDc := hD.sub (ws' := [(q, .inr (5, [.int 0, .ref tx, .int (nI v_43.2), .int fl, .int (bI it), .long al, .ref pt, .int (nI dg), .ref ot, .int (nI wr), .int (nI kz), .ref ka, .ref kd, .ref kp, .int (nI ma), .int (bI wg)])), (tx, .inl (c1, 256, .inl v_43.1))]) [0, 1] (by decide) rfl
      have hKc := hK.sub (tys' := [(c1, .int)]) [0] rfl
      have hFc := va_free (wc := [(q, .inr (5, [.int 0, .ref tx, .int (nI v_43.2), .int fl, .int (bI it), .long al, .ref pt, .int (nI dg), .ref ot, .int (nI wr), .int (nI kz), .ref ka, .ref kd, .ref kp, .int (nI ma), .int (bI wg)])), (tx, .inl (c1, 256, .inl v_43.1))]) hD hS hA [0, 1] rfl
      refine kc_callv (wr := []) (w1 := [(q, .inr (5, [.int 0, .ref tx, .int (nI (mAdd v_43.1 v_43.2 p4).2), .int fl, .int (bI it), .long al, .ref pt, .int (nI dg), .ref ot, .int (nI wr), .int (nI kz), .ref ka, .ref kd, .ref kp, .int (nI ma), .int (bI wg)])), (tx, .inl (c1, 256, .inl (mAdd v_43.1 v_43.2 p4).1))]) (va_runV (As := [.int p4]) (rest := []) ⟨hx, hb, hml, hown, hts⟩ (m_add l dC dI st H.size q 0 tx v_43.2 fl it al pt dg ot wr kz ka kd kp ma wg c1 v_43.1 p4 (by rw [← e_43, mAdd_2, ← e_38, mAdd_2, ← e_33, mAdd_2]; omega)) (cwV 1 hts (kwV kwm_208 kwm_209 kwm_210 kwm_203 kwm_207) rfl rfl rfl (by decide +kernel) ⟨Nat.le_of_ble_eq_true rfl, Nat.le_of_ble_eq_true rfl⟩) ⟨kc_blind, va_recv hKc hPc (ci := 5) (q0 := 0) rfl rfl, kc_pre hG hS hFc hKc hPc hDc⟩ rfl rfl hl.1 rfl (lv_room (Nat.le_of_ble_eq_true rfl)) dX5_feed_49 ⟨Nat.le_of_ble_eq_true rfl, Nat.le_of_ble_eq_true rfl⟩) hP hD hS hFc [0, 1] [] rfl rfl (by decide) (by decide) (fun H locs hP hD hS => ?_)
      have hP : va_P (dC, dI) kcl [(q, .inr (5, [.int 0, .ref tx, .int (nI (mAdd v_43.1 v_43.2 p4).2), .int fl, .int (bI it), .long al, .ref pt, .int (nI dg), .ref ot, .int (nI wr), .int (nI kz), .ref ka, .ref kd, .ref kp, .int (nI ma), .int (bI wg)])), (tx, .inl (c1, 256, .inl (mAdd v_43.1 v_43.2 p4).1))] H := hP
      have hD : va_D A [(q, .inr (5, [.int 0, .ref tx, .int (nI (mAdd v_43.1 v_43.2 p4).2), .int fl, .int (bI it), .long al, .ref pt, .int (nI dg), .ref ot, .int (nI wr), .int (nI kz), .ref ka, .ref kd, .ref kp, .int (nI ma), .int (bI wg)])), (tx, .inl (c1, 256, .inl (mAdd v_43.1 v_43.2 p4).1))] := hD
      generalize e_49 : mAdd v_43.1 v_43.2 p4 = v_49 at hP hD ⊢
      have hP : va_P (dC, dI) kcl [(q, .inr (5, [.int 0, .ref tx, .int (nI v_49.2), .int fl, .int (bI it), .long al, .ref pt, .int (nI dg), .ref ot, .int (nI wr), .int (nI kz), .ref ka, .ref kd, .ref kp, .int (nI ma), .int (bI wg)])), (tx, .inl (c1, 256, .inl v_49.1))] H := hP
      have hD : va_D A [(q, .inr (5, [.int 0, .ref tx, .int (nI v_49.2), .int fl, .int (bI it), .long al, .ref pt, .int (nI dg), .ref ot, .int (nI wr), .int (nI kz), .ref ka, .ref kd, .ref kp, .int (nI ma), .int (bI wg)])), (tx, .inl (c1, 256, .inl v_49.1))] := hD
      refine lv_aload_n hx hb dX5_feed_52 rfl (lv_at hl 0 rfl) ?_
      refine va_get (D := (dC, dI)) (ci := 5) (v := .int (nI v_49.2)) (C := RX5) (T := TX5) (N := 16) hx hb hts kin_5 hown hK hP 0 rfl rfl 2 (by decide) (hts _ (kcm kwm_206)) (fun _ h9 => h9) rfl dX5_feed_53 ?_
      have hF9 : mFeed X mz p1 p2 p3 p4 = (nI v_49.2, 0, v_49.1, v_49.2) := by
        subst e_49
        subst e_43
        subst e_38
        subst e_33
        first | (simp only [mFeed, if_pos c_11]; done) | rfl
      have hP9 : va_P (dC, dI) kcl [(q, .inr (5, [.int (mFeed X mz p1 p2 p3 p4).2.1, .ref tx, .int (nI (mFeed X mz p1 p2 p3 p4).2.2.2), .int fl, .int (bI it), .long al, .ref pt, .int (nI dg), .ref ot, .int (nI wr), .int (nI kz), .ref ka, .ref kd, .ref kp, .int (nI ma), .int (bI wg)])), (tx, .inl (c1, 256, .inl (mFeed X mz p1 p2 p3 p4).2.2.1))] H := by
        try rw [hF9]
        exact hP.sub [0, 1] rfl
      have hD9 : va_D A [(q, .inr (5, [.int (mFeed X mz p1 p2 p3 p4).2.1, .ref tx, .int (nI (mFeed X mz p1 p2 p3 p4).2.2.2), .int fl, .int (bI it), .long al, .ref pt, .int (nI dg), .ref ot, .int (nI wr), .int (nI kz), .ref ka, .ref kd, .ref kp, .int (nI ma), .int (bI wg)])), (tx, .inl (c1, 256, .inl (mFeed X mz p1 p2 p3 p4).2.2.1))] := by
        try rw [hF9]
        exact hD.sub [0, 1] (by decide) rfl
      have hv9 : nI v_49.2 = (mFeed X mz p1 p2 p3 p4).1 := by
        try rw [hF9]
        try rfl
      exact kc_iret hx hb hr hlocks hv9 hP9 hD9 hS dX5_feed_56
    · exact absurd (by decide) c_26
  · refine lv_iconst (v := 1) hx hb dX5_feed_14 (by decide) ?_
    refine lv_goto (tgt := 19) hx hb dX5_feed_15 (by decide) ?_
    refine va_put (D := (dC, dI)) (ci := 5) (v := .int 1) (ty := .int) (C := RX5) (T := TX5) (N := 16) hx hb hts kin_5 tyX5 tyX5_ok nmX5 hown hK hP hD hS 0 rfl rfl 0 (by decide) (hts _ (kcm kwm_204)) (fun _ h9 => h9) rfl (by decide +kernel) rfl rfl (Nat.le_of_ble_eq_true rfl) dX5_feed_19 (fun H locs hP hD hS => ?_)
    have hP : va_P (dC, dI) kcl [(q, .inr (5, [.int 1, .ref tx, .int (nI mz), .int fl, .int (bI it), .long al, .ref pt, .int (nI dg), .ref ot, .int (nI wr), .int (nI kz), .ref ka, .ref kd, .ref kp, .int (nI ma), .int (bI wg)])), (tx, .inl (c1, 256, .inl X))] H := hP
    have hD : va_D A [(q, .inr (5, [.int 1, .ref tx, .int (nI mz), .int fl, .int (bI it), .long al, .ref pt, .int (nI dg), .ref ot, .int (nI wr), .int (nI kz), .ref ka, .ref kd, .ref kp, .int (nI ma), .int (bI wg)])), (tx, .inl (c1, 256, .inl X))] := hD
    refine lv_aload_n hx hb dX5_feed_22 rfl (lv_at hl 0 rfl) ?_
    refine va_get (D := (dC, dI)) (ci := 5) (v := .int 1) (C := RX5) (T := TX5) (N := 16) hx hb hts kin_5 hown hK hP 0 rfl rfl 0 (by decide) (hts _ (kcm kwm_204)) (fun _ h9 => h9) rfl dX5_feed_23 ?_
    refine lv_if_le (tgt := 31) hx hb dX5_feed_26 (by decide) (fun c_26 => ?_) (fun c_26 => ?_)
    · exact absurd c_26 (by decide)
    · refine lv_iconst (v := 0) hx hb dX5_feed_29 (by decide) ?_
      have hF9 : mFeed X mz p1 p2 p3 p4 = (0, 1, X, mz) := by
        first | (simp only [mFeed, if_neg c_11]; done) | rfl
      have hP9 : va_P (dC, dI) kcl [(q, .inr (5, [.int (mFeed X mz p1 p2 p3 p4).2.1, .ref tx, .int (nI (mFeed X mz p1 p2 p3 p4).2.2.2), .int fl, .int (bI it), .long al, .ref pt, .int (nI dg), .ref ot, .int (nI wr), .int (nI kz), .ref ka, .ref kd, .ref kp, .int (nI ma), .int (bI wg)])), (tx, .inl (c1, 256, .inl (mFeed X mz p1 p2 p3 p4).2.2.1))] H := by
        try rw [hF9]
        exact hP.sub [0, 1] rfl
      have hD9 : va_D A [(q, .inr (5, [.int (mFeed X mz p1 p2 p3 p4).2.1, .ref tx, .int (nI (mFeed X mz p1 p2 p3 p4).2.2.2), .int fl, .int (bI it), .long al, .ref pt, .int (nI dg), .ref ot, .int (nI wr), .int (nI kz), .ref ka, .ref kd, .ref kp, .int (nI ma), .int (bI wg)])), (tx, .inl (c1, 256, .inl (mFeed X mz p1 p2 p3 p4).2.2.1))] := by
        try rw [hF9]
        exact hD.sub [0, 1] (by decide) rfl
      have hv9 : (0 : Int32) = (mFeed X mz p1 p2 p3 p4).1 := by
        try rw [hF9]
        try rfl
      exact kc_iret hx hb hr hlocks hv9 hP9 hD9 hS dX5_feed_30
def mEnd (mz : Nat) (p1 : Int32) : Int32 × Int32 × Nat :=
  if p1 < 0 then
    (0, 1, mz)
  else
    if p1 ≤ 16 then
      if 16 ≤ (nI mz) then
        (nI (mz - 16 + p1.toNatClampNeg), 0, (mz - 16 + p1.toNatClampNeg))
      else
        (0, 2, mz)
    else
      (0, 1, mz)
set_option maxHeartbeats 4000000 in
set_option maxRecDepth 100000 in
theorem m_end (l : Launch) (dC : Nat → ClassId) (dI : Nat → Nat → Nat) (st sz : Nat) (q : Nat) (th : Int32) (tx : Nat) (mz : Nat) (fl : Int32) (it : Bool) (al : Int64) (pt : Nat) (dg : Nat) (ot : Nat) (wr : Nat) (kz : Nat) (ka : Nat) (kd : Nat) (kp : Nat) (ma : Nat) (wg : Bool) (p1 : Int32) (hz : mz ≤ 242) : Met l yX5_end wsX5_end ({ frames := 0, cells := 0, slots := 0, locals := 0 }) (kc_Pc (dC, dI) kcl st sz [.ref q, .int p1] [(q, .inr (5, [.int th, .ref tx, .int (nI mz), .int fl, .int (bI it), .long al, .ref pt, .int (nI dg), .ref ot, .int (nI wr), .int (nI kz), .ref ka, .ref kd, .ref kp, .int (nI ma), .int (bI wg)]))] []) (kc_Qi (dC, dI) kcl (mEnd mz p1).1 [(q, .inr (5, [.int (mEnd mz p1).2.1, .ref tx, .int (nI (mEnd mz p1).2.2), .int fl, .int (bI it), .long al, .ref pt, .int (nI dg), .ref ot, .int (nI wr), .int (nI kz), .ref ka, .ref kd, .ref kp, .int (nI ma), .int (bI wg)]))] (va_A [(q, .inr (5, [.int th, .ref tx, .int (nI mz), .int fl, .int (bI it), .long al, .ref pt, .int (nI dg), .ref ot, .int (nI wr), .int (nI kz), .ref ka, .ref kd, .ref kp, .int (nI ma), .int (bI wg)]))] sz)) 0 0 (va_A [(q, .inr (5, [.int th, .ref tx, .int (nI mz), .int fl, .int (bI it), .long al, .ref pt, .int (nI dg), .ref ot, .int (nI wr), .int (nI kz), .ref ka, .ref kd, .ref kp, .int (nI ma), .int (bI wg)]))] sz) := by
  refine kc_ofW (Qc := fun A => (kc_Qi (dC, dI) kcl (mEnd mz p1).1 [(q, .inr (5, [.int (mEnd mz p1).2.1, .ref tx, .int (nI (mEnd mz p1).2.2), .int fl, .int (bI it), .long al, .ref pt, .int (nI dg), .ref ot, .int (nI wr), .int (nI kz), .ref ka, .ref kd, .ref kp, .int (nI ma), .int (bI wg)]))] A)) (cc := cX5_end) (maxL := 2) (ret := (some .int)) (by decide) rfl (Nat.le_of_ble_eq_true rfl) ?_
  intro p e s m below meth c A ls Cx hA hG hK hP hD hS hl
  obtain ⟨hx, hb, hr, hml, hown, hts, hlocks, hnm⟩ := id Cx
  have hl : lv_has ls 2 [(0, .ref q), (1, .int p1)] := hl
  refine lv_aload_n hx hb dX5_end_0 rfl (lv_at hl 0 rfl) ?_
  refine lv_iload_n hx hb dX5_end_1 rfl (lv_at hl 1 rfl) ?_
  refine lv_if_lt (tgt := 11) hx hb dX5_end_2 (by decide) (fun c_2 => ?_) (fun c_2 => ?_)
  · refine lv_iconst (v := 1) hx hb dX5_end_11 (by decide) ?_
    refine lv_goto (tgt := 29) hx hb dX5_end_12 (by decide) ?_
    refine va_put (D := (dC, dI)) (ci := 5) (v := .int 1) (ty := .int) (C := RX5) (T := TX5) (N := 16) hx hb hts kin_5 tyX5 tyX5_ok nmX5 hown hK hP hD hS 0 rfl rfl 0 (by decide) (hts _ (kcm kwm_204)) (fun _ h9 => h9) rfl (by decide +kernel) rfl rfl (Nat.le_of_ble_eq_true rfl) dX5_end_29 (fun H locs hP hD hS => ?_)
    have hP : va_P (dC, dI) kcl [(q, .inr (5, [.int 1, .ref tx, .int (nI mz), .int fl, .int (bI it), .long al, .ref pt, .int (nI dg), .ref ot, .int (nI wr), .int (nI kz), .ref ka, .ref kd, .ref kp, .int (nI ma), .int (bI wg)]))] H := hP
    have hD : va_D A [(q, .inr (5, [.int 1, .ref tx, .int (nI mz), .int fl, .int (bI it), .long al, .ref pt, .int (nI dg), .ref ot, .int (nI wr), .int (nI kz), .ref ka, .ref kd, .ref kp, .int (nI ma), .int (bI wg)]))] := hD
    refine lv_aload_n hx hb dX5_end_32 rfl (lv_at hl 0 rfl) ?_
    refine va_get (D := (dC, dI)) (ci := 5) (v := .int 1) (C := RX5) (T := TX5) (N := 16) hx hb hts kin_5 hown hK hP 0 rfl rfl 0 (by decide) (hts _ (kcm kwm_204)) (fun _ h9 => h9) rfl dX5_end_33 ?_
    refine lv_if_le (tgt := 41) hx hb dX5_end_36 (by decide) (fun c_36 => ?_) (fun c_36 => ?_)
    · exact absurd c_36 (by decide)
    · refine lv_iconst (v := 0) hx hb dX5_end_39 (by decide) ?_
      have hF9 : mEnd mz p1 = (0, 1, mz) := by
        first | (simp only [mEnd, if_pos c_2]; done) | rfl
      have hP9 : va_P (dC, dI) kcl [(q, .inr (5, [.int (mEnd mz p1).2.1, .ref tx, .int (nI (mEnd mz p1).2.2), .int fl, .int (bI it), .long al, .ref pt, .int (nI dg), .ref ot, .int (nI wr), .int (nI kz), .ref ka, .ref kd, .ref kp, .int (nI ma), .int (bI wg)]))] H := by
        try rw [hF9]
        exact hP.sub [0] rfl
      have hD9 : va_D A [(q, .inr (5, [.int (mEnd mz p1).2.1, .ref tx, .int (nI (mEnd mz p1).2.2), .int fl, .int (bI it), .long al, .ref pt, .int (nI dg), .ref ot, .int (nI wr), .int (nI kz), .ref ka, .ref kd, .ref kp, .int (nI ma), .int (bI wg)]))] := by
        try rw [hF9]
        exact hD.sub [0] (by decide) rfl
      have hv9 : (0 : Int32) = (mEnd mz p1).1 := by
        try rw [hF9]
        try rfl
      exact kc_iret hx hb hr hlocks hv9 hP9 hD9 hS dX5_end_40
  · refine lv_iload_n hx hb dX5_end_5 rfl (lv_at hl 1 rfl) ?_
    refine lv_bipush (v := 16) hx hb dX5_end_6 (by decide) ?_
    refine lv_icmp_le (tgt := 15) hx hb dX5_end_8 (by decide) (fun c_8 => ?_) (fun c_8 => ?_)
    · refine lv_aload_n hx hb dX5_end_15 rfl (lv_at hl 0 rfl) ?_
      refine va_get (D := (dC, dI)) (ci := 5) (v := .int (nI mz)) (C := RX5) (T := TX5) (N := 16) hx hb hts kin_5 hown hK hP 0 rfl rfl 2 (by decide) (hts _ (kcm kwm_206)) (fun _ h9 => h9) rfl dX5_end_16 ?_
      refine lv_bipush (v := 16) hx hb dX5_end_19 (by decide) ?_
      refine lv_icmp_ge (tgt := 28) hx hb dX5_end_21 (by decide) (fun c_21 => ?_) (fun c_21 => ?_)
      · refine lv_iconst (v := 0) hx hb dX5_end_28 (by decide) ?_
        refine va_put (D := (dC, dI)) (ci := 5) (v := .int 0) (ty := .int) (C := RX5) (T := TX5) (N := 16) hx hb hts kin_5 tyX5 tyX5_ok nmX5 hown hK hP hD hS 0 rfl rfl 0 (by decide) (hts _ (kcm kwm_204)) (fun _ h9 => h9) rfl (by decide +kernel) rfl rfl (Nat.le_of_ble_eq_true rfl) dX5_end_29 (fun H locs hP hD hS => ?_)
        have hP : va_P (dC, dI) kcl [(q, .inr (5, [.int 0, .ref tx, .int (nI mz), .int fl, .int (bI it), .long al, .ref pt, .int (nI dg), .ref ot, .int (nI wr), .int (nI kz), .ref ka, .ref kd, .ref kp, .int (nI ma), .int (bI wg)]))] H := hP
        have hD : va_D A [(q, .inr (5, [.int 0, .ref tx, .int (nI mz), .int fl, .int (bI it), .long al, .ref pt, .int (nI dg), .ref ot, .int (nI wr), .int (nI kz), .ref ka, .ref kd, .ref kp, .int (nI ma), .int (bI wg)]))] := hD
        refine lv_aload_n hx hb dX5_end_32 rfl (lv_at hl 0 rfl) ?_
        refine va_get (D := (dC, dI)) (ci := 5) (v := .int 0) (C := RX5) (T := TX5) (N := 16) hx hb hts kin_5 hown hK hP 0 rfl rfl 0 (by decide) (hts _ (kcm kwm_204)) (fun _ h9 => h9) rfl dX5_end_33 ?_
        refine lv_if_le (tgt := 41) hx hb dX5_end_36 (by decide) (fun c_36 => ?_) (fun c_36 => ?_)
        · refine lv_aload_n hx hb dX5_end_41 rfl (lv_at hl 0 rfl) ?_
          refine lv_aload_n hx hb dX5_end_42 rfl (lv_at hl 0 rfl) ?_
          refine va_get (D := (dC, dI)) (ci := 5) (v := .int (nI mz)) (C := RX5) (T := TX5) (N := 16) hx hb hts kin_5 hown hK hP 0 rfl rfl 2 (by decide) (hts _ (kcm kwm_206)) (fun _ h9 => h9) rfl dX5_end_43 ?_
          refine lv_bipush (v := 16) hx hb dX5_end_46 (by decide) ?_
          refine lv_isub hx hb dX5_end_48 ?_
          refine lv_iload_n hx hb dX5_end_49 rfl (lv_at hl 1 rfl) ?_
          refine lv_iadd hx hb dX5_end_50 ?_
          rw [show ((nI mz) - 16) + p1 = nI (mz - 16 + p1.toNatClampNeg) from kb_end c_2 c_8 c_21 (by omega)]
          refine va_put (D := (dC, dI)) (ci := 5) (v := .int (nI (mz - 16 + p1.toNatClampNeg))) (ty := .int) (C := RX5) (T := TX5) (N := 16) hx hb hts kin_5 tyX5 tyX5_ok nmX5 hown hK hP hD hS 0 rfl rfl 2 (by decide) (hts _ (kcm kwm_206)) (fun _ h9 => h9) rfl (by decide +kernel) rfl rfl (Nat.le_of_ble_eq_true rfl) dX5_end_51 (fun H locs hP hD hS => ?_)
          have hP : va_P (dC, dI) kcl [(q, .inr (5, [.int 0, .ref tx, .int (nI (mz - 16 + p1.toNatClampNeg)), .int fl, .int (bI it), .long al, .ref pt, .int (nI dg), .ref ot, .int (nI wr), .int (nI kz), .ref ka, .ref kd, .ref kp, .int (nI ma), .int (bI wg)]))] H := hP
          have hD : va_D A [(q, .inr (5, [.int 0, .ref tx, .int (nI (mz - 16 + p1.toNatClampNeg)), .int fl, .int (bI it), .long al, .ref pt, .int (nI dg), .ref ot, .int (nI wr), .int (nI kz), .ref ka, .ref kd, .ref kp, .int (nI ma), .int (bI wg)]))] := hD
          refine lv_aload_n hx hb dX5_end_54 rfl (lv_at hl 0 rfl) ?_
          refine va_get (D := (dC, dI)) (ci := 5) (v := .int (nI (mz - 16 + p1.toNatClampNeg))) (C := RX5) (T := TX5) (N := 16) hx hb hts kin_5 hown hK hP 0 rfl rfl 2 (by decide) (hts _ (kcm kwm_206)) (fun _ h9 => h9) rfl dX5_end_55 ?_
          have hF9 : mEnd mz p1 = (nI (mz - 16 + p1.toNatClampNeg), 0, (mz - 16 + p1.toNatClampNeg)) := by
            first | (simp only [mEnd, if_neg c_2, if_pos c_8, if_pos c_21]; done) | rfl
          have hP9 : va_P (dC, dI) kcl [(q, .inr (5, [.int (mEnd mz p1).2.1, .ref tx, .int (nI (mEnd mz p1).2.2), .int fl, .int (bI it), .long al, .ref pt, .int (nI dg), .ref ot, .int (nI wr), .int (nI kz), .ref ka, .ref kd, .ref kp, .int (nI ma), .int (bI wg)]))] H := by
            try rw [hF9]
            exact hP.sub [0] rfl
          have hD9 : va_D A [(q, .inr (5, [.int (mEnd mz p1).2.1, .ref tx, .int (nI (mEnd mz p1).2.2), .int fl, .int (bI it), .long al, .ref pt, .int (nI dg), .ref ot, .int (nI wr), .int (nI kz), .ref ka, .ref kd, .ref kp, .int (nI ma), .int (bI wg)]))] := by
            try rw [hF9]
            exact hD.sub [0] (by decide) rfl
          have hv9 : nI (mz - 16 + p1.toNatClampNeg) = (mEnd mz p1).1 := by
            try rw [hF9]
            try rfl
          exact kc_iret hx hb hr hlocks hv9 hP9 hD9 hS dX5_end_58
        · exact absurd (by decide) c_36
      · refine lv_iconst (v := 2) hx hb dX5_end_24 (by decide) ?_
        refine lv_goto (tgt := 29) hx hb dX5_end_25 (by decide) ?_
        refine va_put (D := (dC, dI)) (ci := 5) (v := .int 2) (ty := .int) (C := RX5) (T := TX5) (N := 16) hx hb hts kin_5 tyX5 tyX5_ok nmX5 hown hK hP hD hS 0 rfl rfl 0 (by decide) (hts _ (kcm kwm_204)) (fun _ h9 => h9) rfl (by decide +kernel) rfl rfl (Nat.le_of_ble_eq_true rfl) dX5_end_29 (fun H locs hP hD hS => ?_)
        have hP : va_P (dC, dI) kcl [(q, .inr (5, [.int 2, .ref tx, .int (nI mz), .int fl, .int (bI it), .long al, .ref pt, .int (nI dg), .ref ot, .int (nI wr), .int (nI kz), .ref ka, .ref kd, .ref kp, .int (nI ma), .int (bI wg)]))] H := hP
        have hD : va_D A [(q, .inr (5, [.int 2, .ref tx, .int (nI mz), .int fl, .int (bI it), .long al, .ref pt, .int (nI dg), .ref ot, .int (nI wr), .int (nI kz), .ref ka, .ref kd, .ref kp, .int (nI ma), .int (bI wg)]))] := hD
        refine lv_aload_n hx hb dX5_end_32 rfl (lv_at hl 0 rfl) ?_
        refine va_get (D := (dC, dI)) (ci := 5) (v := .int 2) (C := RX5) (T := TX5) (N := 16) hx hb hts kin_5 hown hK hP 0 rfl rfl 0 (by decide) (hts _ (kcm kwm_204)) (fun _ h9 => h9) rfl dX5_end_33 ?_
        refine lv_if_le (tgt := 41) hx hb dX5_end_36 (by decide) (fun c_36 => ?_) (fun c_36 => ?_)
        · exact absurd c_36 (by decide)
        · refine lv_iconst (v := 0) hx hb dX5_end_39 (by decide) ?_
          have hF9 : mEnd mz p1 = (0, 2, mz) := by
            first | (simp only [mEnd, if_neg c_2, if_pos c_8, if_neg c_21]; done) | rfl
          have hP9 : va_P (dC, dI) kcl [(q, .inr (5, [.int (mEnd mz p1).2.1, .ref tx, .int (nI (mEnd mz p1).2.2), .int fl, .int (bI it), .long al, .ref pt, .int (nI dg), .ref ot, .int (nI wr), .int (nI kz), .ref ka, .ref kd, .ref kp, .int (nI ma), .int (bI wg)]))] H := by
            try rw [hF9]
            exact hP.sub [0] rfl
          have hD9 : va_D A [(q, .inr (5, [.int (mEnd mz p1).2.1, .ref tx, .int (nI (mEnd mz p1).2.2), .int fl, .int (bI it), .long al, .ref pt, .int (nI dg), .ref ot, .int (nI wr), .int (nI kz), .ref ka, .ref kd, .ref kp, .int (nI ma), .int (bI wg)]))] := by
            try rw [hF9]
            exact hD.sub [0] (by decide) rfl
          have hv9 : (0 : Int32) = (mEnd mz p1).1 := by
            try rw [hF9]
            try rfl
          exact kc_iret hx hb hr hlocks hv9 hP9 hD9 hS dX5_end_40
    · refine lv_iconst (v := 1) hx hb dX5_end_11 (by decide) ?_
      refine lv_goto (tgt := 29) hx hb dX5_end_12 (by decide) ?_
      refine va_put (D := (dC, dI)) (ci := 5) (v := .int 1) (ty := .int) (C := RX5) (T := TX5) (N := 16) hx hb hts kin_5 tyX5 tyX5_ok nmX5 hown hK hP hD hS 0 rfl rfl 0 (by decide) (hts _ (kcm kwm_204)) (fun _ h9 => h9) rfl (by decide +kernel) rfl rfl (Nat.le_of_ble_eq_true rfl) dX5_end_29 (fun H locs hP hD hS => ?_)
      have hP : va_P (dC, dI) kcl [(q, .inr (5, [.int 1, .ref tx, .int (nI mz), .int fl, .int (bI it), .long al, .ref pt, .int (nI dg), .ref ot, .int (nI wr), .int (nI kz), .ref ka, .ref kd, .ref kp, .int (nI ma), .int (bI wg)]))] H := hP
      have hD : va_D A [(q, .inr (5, [.int 1, .ref tx, .int (nI mz), .int fl, .int (bI it), .long al, .ref pt, .int (nI dg), .ref ot, .int (nI wr), .int (nI kz), .ref ka, .ref kd, .ref kp, .int (nI ma), .int (bI wg)]))] := hD
      refine lv_aload_n hx hb dX5_end_32 rfl (lv_at hl 0 rfl) ?_
      refine va_get (D := (dC, dI)) (ci := 5) (v := .int 1) (C := RX5) (T := TX5) (N := 16) hx hb hts kin_5 hown hK hP 0 rfl rfl 0 (by decide) (hts _ (kcm kwm_204)) (fun _ h9 => h9) rfl dX5_end_33 ?_
      refine lv_if_le (tgt := 41) hx hb dX5_end_36 (by decide) (fun c_36 => ?_) (fun c_36 => ?_)
      · exact absurd c_36 (by decide)
      · refine lv_iconst (v := 0) hx hb dX5_end_39 (by decide) ?_
        have hF9 : mEnd mz p1 = (0, 1, mz) := by
          first | (simp only [mEnd, if_neg c_2, if_neg c_8]; done) | rfl
        have hP9 : va_P (dC, dI) kcl [(q, .inr (5, [.int (mEnd mz p1).2.1, .ref tx, .int (nI (mEnd mz p1).2.2), .int fl, .int (bI it), .long al, .ref pt, .int (nI dg), .ref ot, .int (nI wr), .int (nI kz), .ref ka, .ref kd, .ref kp, .int (nI ma), .int (bI wg)]))] H := by
          try rw [hF9]
          exact hP.sub [0] rfl
        have hD9 : va_D A [(q, .inr (5, [.int (mEnd mz p1).2.1, .ref tx, .int (nI (mEnd mz p1).2.2), .int fl, .int (bI it), .long al, .ref pt, .int (nI dg), .ref ot, .int (nI wr), .int (nI kz), .ref ka, .ref kd, .ref kp, .int (nI ma), .int (bI wg)]))] := by
          try rw [hF9]
          exact hD.sub [0] (by decide) rfl
        have hv9 : (0 : Int32) = (mEnd mz p1).1 := by
          try rw [hF9]
          try rfl
        exact kc_iret hx hb hr hlocks hv9 hP9 hD9 hS dX5_end_40
set_option maxHeartbeats 4000000 in
set_option maxRecDepth 100000 in
theorem lp_dof {p : Program} {l : Launch} {e : Env} {s : State} {m : MethodId} {below : List Frame} {meth : Method} {c : Code} (dC : Nat → ClassId) (dI : Nat → Nat → Nat) (st : Nat) {A : Nat → Prop} (y : Int32) (mo : Int32) (d : Int32) (T : Int32) (hmo : mo ≤ 12) (Cx : kc_Cx yX5_dayOf cX5_dayOf (some .int) 5 wsX5_dayOf p s m ([.int y, .int mo, .int d] : List Value).toArray meth c) (hA : ∀ q, s.heap.size ≤ q → A q) (hG : kg st A s) (hK : va_K (dC, dI) kcl [] s) :
    ∀ (N : Nat) (i : Nat) (n : Int32) (hi : 13 = i + N) (hT : mDyL y mo N i n = T) (ls : Array Slot), va_P (dC, dI) kcl [] s.heap → va_D A [] → va_S A s.heap s.heap [] → lv_has ls 5 [(0, .int y), (1, .int mo), (2, .int d), (3, .int n), (4, .int (nI i))] → W p l e ({ frames := 2, cells := 0, slots := 0, locals := 41 }) s m ([.int y, .int mo, .int d] : List Value).toArray below meth c s.heap [] 0 0 (MQ below (vp_Si (fun r => r = T)) ([.int y, .int mo, .int d] : List Value).toArray s 0 0 (fun _ => False)) (F0 m 12 ls []) := by
  obtain ⟨hx, hb, hr, hml, hown, hts, hlocks, hnm⟩ := Cx
  intro N
  induction N with
  | zero =>
    intro i n hi hT ls hP hD hS hl
    refine lv_iload hx hb dX5_dayOf_12 (lv_at hl 4 rfl) ?_
    refine lv_iload_n hx hb dX5_dayOf_14 rfl (lv_at hl 1 rfl) ?_
    refine lv_icmp_ge (tgt := 33) hx hb dX5_dayOf_15 (by decide) (fun c_15 => ?_) (fun c_15 => ?_)
    · refine lv_iload_n hx hb dX5_dayOf_33 rfl (lv_at hl 3 rfl) ?_
      have hv9 : n = T := by
        try rw [← hT]
        try rfl
      exact kc_Siret hx hb hr hlocks hv9 dX5_dayOf_34
    · exact absurd (kb_mo12 hmo (show 12 ≤ i by omega) (by omega)) c_15
  | succ N ih =>
    intro i n hi hT ls hP hD hS hl
    refine lv_iload hx hb dX5_dayOf_12 (lv_at hl 4 rfl) ?_
    refine lv_iload_n hx hb dX5_dayOf_14 rfl (lv_at hl 1 rfl) ?_
    refine lv_icmp_ge (tgt := 33) hx hb dX5_dayOf_15 (by decide) (fun c_15 => ?_) (fun c_15 => ?_)
    · refine lv_iload_n hx hb dX5_dayOf_33 rfl (lv_at hl 3 rfl) ?_
      have hT : n = T := by rw [← hT]; exact (if_pos c_15).symm
      have hv9 : n = T := by
        try rw [← hT]
        try rfl
      exact kc_Siret hx hb hr hlocks hv9 dX5_dayOf_34
    · refine lv_iload_n hx hb dX5_dayOf_18 rfl (lv_at hl 3 rfl) ?_
      refine lv_iload_n hx hb dX5_dayOf_19 rfl (lv_at hl 0 rfl) ?_
      refine lv_iload hx hb dX5_dayOf_20 (lv_at hl 4 rfl) ?_
      have hPc := hP.sub (ws' := []) [] rfl
      have hDc := hD.sub (ws' := []) [] (by decide) rfl
      have hKc := hK.sub (tys' := []) [] rfl
      have hFc := va_free (wc := []) hD hS hA [] rfl
      refine kc_callSi (val := mDays y (nI i)) (va_runS (As := [.int y, .int (nI i)]) (rest := [.int n]) ⟨hx, hb, hml, hown, hts⟩ (m_daysOf l dC dI st s.heap.size y (nI i) ) (va_cwS 2 hts (kwS kwm_212 kwm_213 kwm_203 kwm_211) rfl rfl rfl (by decide +kernel) ⟨Nat.le_of_ble_eq_true rfl, Nat.le_of_ble_eq_true rfl⟩) ⟨kc_blind, kc_pre hG hS hFc hKc hPc hDc⟩ rfl rfl hl.1 rfl (lv_room (Nat.le_of_ble_eq_true rfl)) dX5_dayOf_22 ⟨Nat.le_of_ble_eq_true rfl, Nat.le_of_ble_eq_true rfl⟩) ?_
      refine lv_iadd hx hb dX5_dayOf_25 ?_
      refine lv_istore_n (lv' := [(3, .int (n + (mDays y (nI i)))), (0, .int y), (1, .int mo), (2, .int d), (4, .int (nI i))]) hx hb dX5_dayOf_26 rfl hl (by decide) rfl (fun ls hl => ?_)
      refine lv_iinc (v := (nI i) + 1) (lv' := [(4, .int ((nI i) + 1)), (3, .int (n + (mDays y (nI i)))), (0, .int y), (1, .int mo), (2, .int d)]) hx hb dX5_dayOf_27 hl (k := 4) rfl (congrArg (fun z => (nI i) + z) (show Int32.ofInt (1) = (1 : Int32) by decide)) (by decide) rfl (fun ls hl => ?_)
      refine lv_goto (tgt := 12) hx hb dX5_dayOf_30 (by decide) ?_
      rw [nI_1] at hl
      exact ih (i + 1) _ (by omega) (by rw [← hT]; exact (if_neg c_15).symm) ls hP hD hS (lv_sub hl [2, 3, 4, 1, 0] rfl)
set_option maxHeartbeats 4000000 in
set_option maxRecDepth 100000 in
theorem m_dayOf (l : Launch) (dC : Nat → ClassId) (dI : Nat → Nat → Nat) (st sz : Nat) (y : Int32) (mo : Int32) (d : Int32) (hmo : mo ≤ 12) : Met l yX5_dayOf wsX5_dayOf ({ frames := 2, cells := 0, slots := 0, locals := 41 }) (kc_Pc (dC, dI) kcl st sz [.int y, .int mo, .int d] [] []) (vp_Si (fun r => r = mDayOf y mo d)) 0 0 (fun _ => False) := by
  refine kc_ofS (cc := cX5_dayOf) (maxL := 5) (ret := (some .int)) (by decide) rfl (Nat.le_of_ble_eq_true rfl) ?_
  intro p e s m below meth c A ls Cx hA hG hK hP hD hS hl
  obtain ⟨hx, hb, hr, hml, hown, hts, hlocks, hnm⟩ := id Cx
  have hl : lv_has ls 5 [(0, .int y), (1, .int mo), (2, .int d)] := hl
  refine lv_iload_n hx hb dX5_dayOf_0 rfl (lv_at hl 0 rfl) ?_
  have hPc := hP.sub (ws' := []) [] rfl
  have hDc := hD.sub (ws' := []) [] (by decide) rfl
  have hKc := hK.sub (tys' := []) [] rfl
  have hFc := va_free (wc := []) hD hS hA [] rfl
  refine kc_callSi (val := mTo y) (va_runS (As := [.int y]) (rest := []) ⟨hx, hb, hml, hown, hts⟩ (m_daysTo l dC dI st s.heap.size y ) (va_cwS 1 hts (kwS kwm_215 kwm_216 kwm_203 kwm_214) rfl rfl rfl (by decide +kernel) ⟨Nat.le_of_ble_eq_true rfl, Nat.le_of_ble_eq_true rfl⟩) ⟨kc_blind, kc_pre hG hS hFc hKc hPc hDc⟩ rfl rfl hl.1 rfl (lv_room (Nat.le_of_ble_eq_true rfl)) dX5_dayOf_1 ⟨Nat.le_of_ble_eq_true rfl, Nat.le_of_ble_eq_true rfl⟩) ?_
  refine lv_iload_n hx hb dX5_dayOf_4 rfl (lv_at hl 2 rfl) ?_
  refine lv_iadd hx hb dX5_dayOf_5 ?_
  refine lv_iconst (v := 1) hx hb dX5_dayOf_6 (by decide) ?_
  refine lv_isub hx hb dX5_dayOf_7 ?_
  refine lv_istore_n (lv' := [(3, .int (((mTo y) + d) - 1)), (0, .int y), (1, .int mo), (2, .int d)]) hx hb dX5_dayOf_8 rfl hl (by decide) rfl (fun ls hl => ?_)
  refine lv_iconst (v := 1) hx hb dX5_dayOf_9 (by decide) ?_
  refine lv_istore (lv' := [(4, .int 1), (3, .int (((mTo y) + d) - 1)), (0, .int y), (1, .int mo), (2, .int d)]) hx hb dX5_dayOf_10 hl (by decide) rfl (fun ls hl => ?_)
  exact lp_dof dC dI st y mo d (mDayOf y mo d) hmo Cx hA hG hK 12 1 _ (by decide) rfl ls hP hD hS (lv_sub hl [2, 3, 4, 1, 0] rfl)
set_option maxHeartbeats 4000000 in
set_option maxRecDepth 100000 in
theorem lp_yof {p : Program} {l : Launch} {e : Env} {s : State} {m : MethodId} {below : List Frame} {meth : Method} {c : Code} (dC : Nat → ClassId) (dI : Nat → Nat → Nat) (st : Nat) {A : Nat → Prop} (d : Int32) (T : Int32) (Cx : kc_Cx yX5_yearOf cX5_yearOf (some .int) 2 wsX5_yearOf p s m ([.int d] : List Value).toArray meth c) (hA : ∀ q, s.heap.size ≤ q → A q) (hG : kg st A s) (hK : va_K (dC, dI) kcl [] s) :
    ∀ (N : Nat) (y : Int32) (hT : yrL d N y = some T) (ls : Array Slot), va_P (dC, dI) kcl [] s.heap → va_D A [] → va_S A s.heap s.heap [] → lv_has ls 2 [(0, .int d), (1, .int y)] → W p l e ({ frames := 1, cells := 0, slots := 0, locals := 20 }) s m ([.int d] : List Value).toArray below meth c s.heap [] 0 0 (MQ below (vp_Si (fun r => r = T)) ([.int d] : List Value).toArray s 0 0 (fun _ => False)) (F0 m 6 ls []) := by
  obtain ⟨hx, hb, hr, hml, hown, hts, hlocks, hnm⟩ := Cx
  intro N
  induction N with
  | zero =>
    intro y hT ls hP hD hS hl
    refine lv_iload_n hx hb dX5_yearOf_6 rfl (lv_at hl 1 rfl) ?_
    refine lv_iconst (v := 1) hx hb dX5_yearOf_7 (by decide) ?_
    refine lv_iadd hx hb dX5_yearOf_8 ?_
    have hPc := hP.sub (ws' := []) [] rfl
    have hDc := hD.sub (ws' := []) [] (by decide) rfl
    have hKc := hK.sub (tys' := []) [] rfl
    have hFc := va_free (wc := []) hD hS hA [] rfl
    refine kc_callSi (val := mTo (y + 1)) (va_runS (As := [.int (y + 1)]) (rest := []) ⟨hx, hb, hml, hown, hts⟩ (m_daysTo l dC dI st s.heap.size (y + 1) ) (va_cwS 1 hts (kwS kwm_215 kwm_216 kwm_203 kwm_214) rfl rfl rfl (by decide +kernel) ⟨Nat.le_of_ble_eq_true rfl, Nat.le_of_ble_eq_true rfl⟩) ⟨kc_blind, kc_pre hG hS hFc hKc hPc hDc⟩ rfl rfl hl.1 rfl (lv_room (Nat.le_of_ble_eq_true rfl)) dX5_yearOf_9 ⟨Nat.le_of_ble_eq_true rfl, Nat.le_of_ble_eq_true rfl⟩) ?_
    refine lv_iload_n hx hb dX5_yearOf_12 rfl (lv_at hl 0 rfl) ?_
    refine lv_icmp_gt (tgt := 22) hx hb dX5_yearOf_13 (by decide) (fun c_13 => ?_) (fun c_13 => ?_)
    · exact absurd hT (by simp [yrL])
    · exact absurd hT (by simp [yrL])
  | succ N ih =>
    intro y hT ls hP hD hS hl
    refine lv_iload_n hx hb dX5_yearOf_6 rfl (lv_at hl 1 rfl) ?_
    refine lv_iconst (v := 1) hx hb dX5_yearOf_7 (by decide) ?_
    refine lv_iadd hx hb dX5_yearOf_8 ?_
    have hPc := hP.sub (ws' := []) [] rfl
    have hDc := hD.sub (ws' := []) [] (by decide) rfl
    have hKc := hK.sub (tys' := []) [] rfl
    have hFc := va_free (wc := []) hD hS hA [] rfl
    refine kc_callSi (val := mTo (y + 1)) (va_runS (As := [.int (y + 1)]) (rest := []) ⟨hx, hb, hml, hown, hts⟩ (m_daysTo l dC dI st s.heap.size (y + 1) ) (va_cwS 1 hts (kwS kwm_215 kwm_216 kwm_203 kwm_214) rfl rfl rfl (by decide +kernel) ⟨Nat.le_of_ble_eq_true rfl, Nat.le_of_ble_eq_true rfl⟩) ⟨kc_blind, kc_pre hG hS hFc hKc hPc hDc⟩ rfl rfl hl.1 rfl (lv_room (Nat.le_of_ble_eq_true rfl)) dX5_yearOf_9 ⟨Nat.le_of_ble_eq_true rfl, Nat.le_of_ble_eq_true rfl⟩) ?_
    refine lv_iload_n hx hb dX5_yearOf_12 rfl (lv_at hl 0 rfl) ?_
    refine lv_icmp_gt (tgt := 22) hx hb dX5_yearOf_13 (by decide) (fun c_13 => ?_) (fun c_13 => ?_)
    · refine lv_iload_n hx hb dX5_yearOf_22 rfl (lv_at hl 1 rfl) ?_
      have h9 : some y = some T := by rw [← hT]; exact (if_pos c_13).symm
      have hT : y = T := Option.some.inj h9
      have hv9 : y = T := by
        try rw [← hT]
        try rfl
      exact kc_Siret hx hb hr hlocks hv9 dX5_yearOf_23
    · refine lv_iinc (v := y + 1) (lv' := [(1, .int (y + 1)), (0, .int d)]) hx hb dX5_yearOf_16 hl (k := 1) rfl (congrArg (fun z => y + z) (show Int32.ofInt (1) = (1 : Int32) by decide)) (by decide) rfl (fun ls hl => ?_)
      refine lv_goto (tgt := 6) hx hb dX5_yearOf_19 (by decide) ?_
      exact ih _ (by rw [← hT]; exact (if_neg c_13).symm) ls hP hD hS (lv_sub hl [1, 0] rfl)
set_option maxHeartbeats 4000000 in
set_option maxRecDepth 100000 in
theorem m_yearOf (l : Launch) (dC : Nat → ClassId) (dI : Nat → Nat → Nat) (st sz : Nat) (d : Int32) (hY : (yrL d 10100 (d / 366)).isSome = true) : Met l yX5_yearOf wsX5_yearOf ({ frames := 1, cells := 0, slots := 0, locals := 20 }) (kc_Pc (dC, dI) kcl st sz [.int d] [] []) (vp_Si (fun r => r = yrF d)) 0 0 (fun _ => False) := by
  refine kc_ofS (cc := cX5_yearOf) (maxL := 2) (ret := (some .int)) (by decide) rfl (Nat.le_of_ble_eq_true rfl) ?_
  intro p e s m below meth c A ls Cx hA hG hK hP hD hS hl
  obtain ⟨hx, hb, hr, hml, hown, hts, hlocks, hnm⟩ := id Cx
  have hl : lv_has ls 2 [(0, .int d)] := hl
  refine lv_iload_n hx hb dX5_yearOf_0 rfl (lv_at hl 0 rfl) ?_
  refine lv_sipush (v := 366) hx hb dX5_yearOf_1 (by decide) ?_
  refine lv_idiv hx hb dX5_yearOf_4 (by decide) ?_
  refine lv_istore_n (lv' := [(1, .int (d / 366)), (0, .int d)]) hx hb dX5_yearOf_5 rfl hl (by decide) rfl (fun ls hl => ?_)
  exact lp_yof dC dI st d (yrF d) Cx hA hG hK 10100 _ (yrF_eq hY) ls hP hD hS (lv_sub hl [1, 0] rfl)
def mDay (al : Int64) : Int32 :=
  (al / 86400).toInt32
set_option maxHeartbeats 4000000 in
set_option maxRecDepth 100000 in
theorem m_dayNow (l : Launch) (dC : Nat → ClassId) (dI : Nat → Nat → Nat) (st sz : Nat) (q : Nat) (th : Int32) (tx : Nat) (mz : Nat) (fl : Int32) (it : Bool) (al : Int64) (pt : Nat) (dg : Nat) (ot : Nat) (wr : Nat) (kz : Nat) (ka : Nat) (kd : Nat) (kp : Nat) (ma : Nat) (wg : Bool)  : Met l yX5_dayNow wsX5_dayNow ({ frames := 0, cells := 0, slots := 0, locals := 0 }) (kc_Pc (dC, dI) kcl st sz [.ref q] [(q, .inr (5, [.int th, .ref tx, .int (nI mz), .int fl, .int (bI it), .long al, .ref pt, .int (nI dg), .ref ot, .int (nI wr), .int (nI kz), .ref ka, .ref kd, .ref kp, .int (nI ma), .int (bI wg)]))] []) (vp_Si (fun r => r = mDay al)) 0 0 (fun _ => False) := by
  refine kc_ofS (cc := cX5_dayNow) (maxL := 1) (ret := (some .int)) (by decide) rfl (Nat.le_of_ble_eq_true rfl) ?_
  intro p e s m below meth c A ls Cx hA hG hK hP hD hS hl
  obtain ⟨hx, hb, hr, hml, hown, hts, hlocks, hnm⟩ := id Cx
  have hl : lv_has ls 1 [(0, .ref q)] := hl
  refine lv_aload_n hx hb dX5_dayNow_0 rfl (lv_at hl 0 rfl) ?_
  refine va_get (D := (dC, dI)) (ci := 5) (v := .long al) (C := RX5) (T := TX5) (N := 16) hx hb hts kin_5 hown hK hP 0 rfl rfl 5 (by decide) (hts _ (kcm kwm_217)) (fun _ h9 => h9) rfl dX5_dayNow_1 ?_
  refine lv_ldc2 (own := RX5) (v := 86400) hx hb hown (hts _ (kcm kwm_218)) dX5_dayNow_4 ?_
  refine lv_ldiv hx hb dX5_dayNow_7 (by decide) ?_
  refine lv_l2i (v := (al / 86400).toInt32) hx hb dX5_dayNow_8 rfl ?_
  have hF9 : mDay al = (al / 86400).toInt32 := by
    first | (simp only [mDay]; done) | rfl
  have hv9 : (al / 86400).toInt32 = mDay al := by
    try rw [hF9]
    try rfl
  exact kc_Siret hx hb hr hlocks hv9 dX5_dayNow_9
