abbrev cX5_add : ByteArray := prog_7_method_3_code
def yX5_add : MethodName := ⟨RX5, "add", "(I)V"⟩
abbrev cX5_daysOf : ByteArray := prog_7_method_7_code
def yX5_daysOf : MethodName := ⟨RX5, "daysOf", "(II)I"⟩
abbrev cX5_daysTo : ByteArray := prog_7_method_8_code
def yX5_daysTo : MethodName := ⟨RX5, "daysTo", "(I)I"⟩
abbrev cX5_isLeap : ByteArray := prog_7_method_6_code
def yX5_isLeap : MethodName := ⟨RX5, "isLeap", "(I)Z"⟩
abbrev cX5_thrown : ByteArray := prog_7_method_2_code
def yX5_thrown : MethodName := ⟨RX5, "thrown", "()I"⟩
abbrev wsX5_add : List Cond := .code yX5_add cX5_add 3 none :: kw
abbrev wsX5_daysOf : List Cond := .code yX5_daysOf cX5_daysOf 2 (some .int) :: kw
abbrev wsX5_daysTo : List Cond := .code yX5_daysTo cX5_daysTo 1 (some .int) :: kw
abbrev wsX5_isLeap : List Cond := .code yX5_isLeap cX5_isLeap 1 (some .boolean) :: kw
abbrev wsX5_thrown : List Cond := .code yX5_thrown cX5_thrown 1 (some .int) :: kw
theorem kwm_200 : (.code yX5_isLeap cX5_isLeap 1 (some .boolean) : Cond) ∈ kw := kw_in (i := 623) (by decide +kernel) (by decide +kernel)
theorem kwm_201 : (.methodLink RX5 40 yX5_isLeap : Cond) ∈ kw := kw_in (i := 621) (by decide +kernel) (by decide +kernel)
theorem kwm_202 : (.static yX5_isLeap : Cond) ∈ kw := kw_in (i := 622) (by decide +kernel) (by decide +kernel)
theorem kwm_203 : (.initialized RX5 : Cond) ∈ kw := kw_in (i := 38) (by decide +kernel) (by decide +kernel)
theorem kwm_204 : (.fieldLink RX5 29 "ClockTextsModel" "thrown" "I" : Cond) ∈ kw := kw_in (i := 529) (by decide +kernel) (by decide +kernel)
theorem kwm_205 : (.fieldLink RX5 7 "ClockTextsModel" "text" "[I" : Cond) ∈ kw := kw_in (i := 530) (by decide +kernel) (by decide +kernel)
theorem kwm_206 : (.fieldLink RX5 33 "ClockTextsModel" "size" "I" : Cond) ∈ kw := kw_in (i := 531) (by decide +kernel) (by decide +kernel)
theorem dX5_thrown_0 : decode cX5_thrown 0 = .ok (.aload_n 0, 1) := by decide +kernel
theorem dX5_thrown_1 : decode cX5_thrown 1 = .ok (.getfield 29, 3) := by decide +kernel
theorem dX5_thrown_4 : decode cX5_thrown 4 = .ok (.ireturn, 1) := by decide +kernel
theorem dX5_add_0 : decode cX5_add 0 = .ok (.bipush 24, 2) := by decide +kernel
theorem dX5_add_2 : decode cX5_add 2 = .ok (.istore_n 2, 1) := by decide +kernel
theorem dX5_add_3 : decode cX5_add 3 = .ok (.iload_n 2, 1) := by decide +kernel
theorem dX5_add_4 : decode cX5_add 4 = .ok (.ifCond .lt 35, 3) := by decide +kernel
theorem dX5_add_7 : decode cX5_add 7 = .ok (.aload_n 0, 1) := by decide +kernel
theorem dX5_add_8 : decode cX5_add 8 = .ok (.getfield 7, 3) := by decide +kernel
theorem dX5_add_11 : decode cX5_add 11 = .ok (.aload_n 0, 1) := by decide +kernel
theorem dX5_add_12 : decode cX5_add 12 = .ok (.getfield 33, 3) := by decide +kernel
theorem dX5_add_15 : decode cX5_add 15 = .ok (.iload_n 1, 1) := by decide +kernel
theorem dX5_add_16 : decode cX5_add 16 = .ok (.iload_n 2, 1) := by decide +kernel
theorem dX5_add_17 : decode cX5_add 17 = .ok (.ishr, 1) := by decide +kernel
theorem dX5_add_18 : decode cX5_add 18 = .ok (.sipush 255, 3) := by decide +kernel
theorem dX5_add_21 : decode cX5_add 21 = .ok (.iand, 1) := by decide +kernel
theorem dX5_add_22 : decode cX5_add 22 = .ok (.iastore, 1) := by decide +kernel
theorem dX5_add_23 : decode cX5_add 23 = .ok (.aload_n 0, 1) := by decide +kernel
theorem dX5_add_24 : decode cX5_add 24 = .ok (.dup, 1) := by decide +kernel
theorem dX5_add_25 : decode cX5_add 25 = .ok (.getfield 33, 3) := by decide +kernel
theorem dX5_add_28 : decode cX5_add 28 = .ok (.iconst 1, 1) := by decide +kernel
theorem dX5_add_29 : decode cX5_add 29 = .ok (.iadd, 1) := by decide +kernel
theorem dX5_add_30 : decode cX5_add 30 = .ok (.putfield 33, 3) := by decide +kernel
theorem dX5_add_33 : decode cX5_add 33 = .ok (.iinc 2 (-8), 3) := by decide +kernel
theorem dX5_add_36 : decode cX5_add 36 = .ok (.goto (-33), 3) := by decide +kernel
theorem dX5_add_39 : decode cX5_add 39 = .ok (.return_, 1) := by decide +kernel
theorem dX5_isLeap_0 : decode cX5_isLeap 0 = .ok (.iload_n 0, 1) := by decide +kernel
theorem dX5_isLeap_1 : decode cX5_isLeap 1 = .ok (.iconst 4, 1) := by decide +kernel
theorem dX5_isLeap_2 : decode cX5_isLeap 2 = .ok (.irem, 1) := by decide +kernel
theorem dX5_isLeap_3 : decode cX5_isLeap 3 = .ok (.ifCond .ne 22, 3) := by decide +kernel
theorem dX5_isLeap_6 : decode cX5_isLeap 6 = .ok (.iload_n 0, 1) := by decide +kernel
theorem dX5_isLeap_7 : decode cX5_isLeap 7 = .ok (.bipush 100, 2) := by decide +kernel
theorem dX5_isLeap_9 : decode cX5_isLeap 9 = .ok (.irem, 1) := by decide +kernel
theorem dX5_isLeap_10 : decode cX5_isLeap 10 = .ok (.ifCond .ne 11, 3) := by decide +kernel
theorem dX5_isLeap_13 : decode cX5_isLeap 13 = .ok (.iload_n 0, 1) := by decide +kernel
theorem dX5_isLeap_14 : decode cX5_isLeap 14 = .ok (.sipush 400, 3) := by decide +kernel
theorem dX5_isLeap_17 : decode cX5_isLeap 17 = .ok (.irem, 1) := by decide +kernel
theorem dX5_isLeap_18 : decode cX5_isLeap 18 = .ok (.ifCond .ne 7, 3) := by decide +kernel
theorem dX5_isLeap_21 : decode cX5_isLeap 21 = .ok (.iconst 1, 1) := by decide +kernel
theorem dX5_isLeap_22 : decode cX5_isLeap 22 = .ok (.goto 4, 3) := by decide +kernel
theorem dX5_isLeap_25 : decode cX5_isLeap 25 = .ok (.iconst 0, 1) := by decide +kernel
theorem dX5_isLeap_26 : decode cX5_isLeap 26 = .ok (.ireturn, 1) := by decide +kernel
theorem dX5_daysOf_0 : decode cX5_daysOf 0 = .ok (.iload_n 1, 1) := by decide +kernel
theorem dX5_daysOf_1 : decode cX5_daysOf 1 = .ok (.iconst 2, 1) := by decide +kernel
theorem dX5_daysOf_2 : decode cX5_daysOf 2 = .ok (.if_icmp .ne 18, 3) := by decide +kernel
theorem dX5_daysOf_5 : decode cX5_daysOf 5 = .ok (.iload_n 0, 1) := by decide +kernel
theorem dX5_daysOf_6 : decode cX5_daysOf 6 = .ok (.invokestatic 40, 3) := by decide +kernel
theorem dX5_daysOf_9 : decode cX5_daysOf 9 = .ok (.ifCond .eq 8, 3) := by decide +kernel
theorem dX5_daysOf_12 : decode cX5_daysOf 12 = .ok (.bipush 29, 2) := by decide +kernel
theorem dX5_daysOf_14 : decode cX5_daysOf 14 = .ok (.goto 5, 3) := by decide +kernel
theorem dX5_daysOf_17 : decode cX5_daysOf 17 = .ok (.bipush 28, 2) := by decide +kernel
theorem dX5_daysOf_19 : decode cX5_daysOf 19 = .ok (.ireturn, 1) := by decide +kernel
theorem dX5_daysOf_20 : decode cX5_daysOf 20 = .ok (.iload_n 1, 1) := by decide +kernel
theorem dX5_daysOf_21 : decode cX5_daysOf 21 = .ok (.iconst 4, 1) := by decide +kernel
theorem dX5_daysOf_22 : decode cX5_daysOf 22 = .ok (.if_icmp .eq 21, 3) := by decide +kernel
theorem dX5_daysOf_25 : decode cX5_daysOf 25 = .ok (.iload_n 1, 1) := by decide +kernel
theorem dX5_daysOf_26 : decode cX5_daysOf 26 = .ok (.bipush 6, 2) := by decide +kernel
theorem dX5_daysOf_28 : decode cX5_daysOf 28 = .ok (.if_icmp .eq 15, 3) := by decide +kernel
theorem dX5_daysOf_31 : decode cX5_daysOf 31 = .ok (.iload_n 1, 1) := by decide +kernel
theorem dX5_daysOf_32 : decode cX5_daysOf 32 = .ok (.bipush 9, 2) := by decide +kernel
theorem dX5_daysOf_34 : decode cX5_daysOf 34 = .ok (.if_icmp .eq 9, 3) := by decide +kernel
theorem dX5_daysOf_37 : decode cX5_daysOf 37 = .ok (.iload_n 1, 1) := by decide +kernel
theorem dX5_daysOf_38 : decode cX5_daysOf 38 = .ok (.bipush 11, 2) := by decide +kernel
theorem dX5_daysOf_40 : decode cX5_daysOf 40 = .ok (.if_icmp .ne 8, 3) := by decide +kernel
theorem dX5_daysOf_43 : decode cX5_daysOf 43 = .ok (.bipush 30, 2) := by decide +kernel
theorem dX5_daysOf_45 : decode cX5_daysOf 45 = .ok (.goto 5, 3) := by decide +kernel
theorem dX5_daysOf_48 : decode cX5_daysOf 48 = .ok (.bipush 31, 2) := by decide +kernel
theorem dX5_daysOf_50 : decode cX5_daysOf 50 = .ok (.ireturn, 1) := by decide +kernel
theorem dX5_daysTo_0 : decode cX5_daysTo 0 = .ok (.sipush 365, 3) := by decide +kernel
theorem dX5_daysTo_3 : decode cX5_daysTo 3 = .ok (.iload_n 0, 1) := by decide +kernel
theorem dX5_daysTo_4 : decode cX5_daysTo 4 = .ok (.imul, 1) := by decide +kernel
theorem dX5_daysTo_5 : decode cX5_daysTo 5 = .ok (.iload_n 0, 1) := by decide +kernel
theorem dX5_daysTo_6 : decode cX5_daysTo 6 = .ok (.iconst 3, 1) := by decide +kernel
theorem dX5_daysTo_7 : decode cX5_daysTo 7 = .ok (.iadd, 1) := by decide +kernel
theorem dX5_daysTo_8 : decode cX5_daysTo 8 = .ok (.iconst 4, 1) := by decide +kernel
theorem dX5_daysTo_9 : decode cX5_daysTo 9 = .ok (.idiv, 1) := by decide +kernel
theorem dX5_daysTo_10 : decode cX5_daysTo 10 = .ok (.iadd, 1) := by decide +kernel
theorem dX5_daysTo_11 : decode cX5_daysTo 11 = .ok (.iload_n 0, 1) := by decide +kernel
theorem dX5_daysTo_12 : decode cX5_daysTo 12 = .ok (.bipush 99, 2) := by decide +kernel
theorem dX5_daysTo_14 : decode cX5_daysTo 14 = .ok (.iadd, 1) := by decide +kernel
theorem dX5_daysTo_15 : decode cX5_daysTo 15 = .ok (.bipush 100, 2) := by decide +kernel
theorem dX5_daysTo_17 : decode cX5_daysTo 17 = .ok (.idiv, 1) := by decide +kernel
theorem dX5_daysTo_18 : decode cX5_daysTo 18 = .ok (.isub, 1) := by decide +kernel
theorem dX5_daysTo_19 : decode cX5_daysTo 19 = .ok (.iload_n 0, 1) := by decide +kernel
theorem dX5_daysTo_20 : decode cX5_daysTo 20 = .ok (.sipush 399, 3) := by decide +kernel
theorem dX5_daysTo_23 : decode cX5_daysTo 23 = .ok (.iadd, 1) := by decide +kernel
theorem dX5_daysTo_24 : decode cX5_daysTo 24 = .ok (.sipush 400, 3) := by decide +kernel
theorem dX5_daysTo_27 : decode cX5_daysTo 27 = .ok (.idiv, 1) := by decide +kernel
theorem dX5_daysTo_28 : decode cX5_daysTo 28 = .ok (.iadd, 1) := by decide +kernel
theorem dX5_daysTo_29 : decode cX5_daysTo 29 = .ok (.ireturn, 1) := by decide +kernel
set_option maxHeartbeats 4000000 in
set_option maxRecDepth 100000 in
theorem m_thrown (l : Launch) (dC : Nat → ClassId) (dI : Nat → Nat → Nat) (st sz : Nat) (q : Nat) (th : Int32) (tx : Nat) (mz : Nat) (fl : Int32) (it : Bool) (al : Int64) (pt : Nat) (dg : Nat) (ot : Nat) (wr : Nat) (kz : Nat) (ka : Nat) (kd : Nat) (kp : Nat) (ma : Nat) (wg : Bool)  : Met l yX5_thrown wsX5_thrown ({ frames := 0, cells := 0, slots := 0, locals := 0 }) (kc_Pc (dC, dI) kcl st sz [.ref q] [(q, .inr (5, [.int th, .ref tx, .int (nI mz), .int fl, .int (bI it), .long al, .ref pt, .int (nI dg), .ref ot, .int (nI wr), .int (nI kz), .ref ka, .ref kd, .ref kp, .int (nI ma), .int (bI wg)]))] []) (vp_Si (fun r => r = th)) 0 0 (fun _ => False) := by
  refine kc_ofS (cc := cX5_thrown) (maxL := 1) (ret := (some .int)) (by decide) rfl (Nat.le_of_ble_eq_true rfl) ?_
  intro p e s m below meth c A ls Cx hA hG hK hP hD hS hl
  obtain ⟨hx, hb, hr, hml, hown, hts, hlocks, hnm⟩ := id Cx
  have hl : lv_has ls 1 [(0, .ref q)] := hl
  refine lv_aload_n hx hb dX5_thrown_0 rfl (lv_at hl 0 rfl) ?_
  refine va_get (D := (dC, dI)) (ci := 5) (v := .int th) (C := RX5) (T := TX5) (N := 16) hx hb hts kin_5 hown hK hP 0 rfl rfl 0 (by decide) (hts _ (kcm kwm_204)) (fun _ h9 => h9) rfl dX5_thrown_1 ?_
  have hv9 : th = th := by
    skip
    try rfl
  exact kc_Siret hx hb hr hlocks hv9 dX5_thrown_4
def mAdd (X : Nat → Int32) (mz : Nat) (v : Int32) : (Nat → Int32) × Nat :=
  (upd (upd (upd (upd X mz ((v >>> ((24 : Int32) &&& 31)) &&& 255)) (mz + 1) ((v >>> ((16 : Int32) &&& 31)) &&& 255)) ((mz + 1) + 1) ((v >>> ((8 : Int32) &&& 31)) &&& 255)) (((mz + 1) + 1) + 1) ((v >>> ((0 : Int32) &&& 31)) &&& 255), ((((mz + 1) + 1) + 1) + 1))
set_option maxHeartbeats 4000000 in
set_option maxRecDepth 100000 in
theorem m_add (l : Launch) (dC : Nat → ClassId) (dI : Nat → Nat → Nat) (st sz : Nat) (q : Nat) (th : Int32) (tx : Nat) (mz : Nat) (fl : Int32) (it : Bool) (al : Int64) (pt : Nat) (dg : Nat) (ot : Nat) (wr : Nat) (kz : Nat) (ka : Nat) (kd : Nat) (kp : Nat) (ma : Nat) (wg : Bool) (c1 : ClassId) (X : Nat → Int32) (v : Int32) (hz : mz ≤ 252) : Met l yX5_add wsX5_add ({ frames := 0, cells := 0, slots := 0, locals := 0 }) (kc_Pc (dC, dI) kcl st sz [.ref q, .int v] [(q, .inr (5, [.int th, .ref tx, .int (nI mz), .int fl, .int (bI it), .long al, .ref pt, .int (nI dg), .ref ot, .int (nI wr), .int (nI kz), .ref ka, .ref kd, .ref kp, .int (nI ma), .int (bI wg)])), (tx, .inl (c1, 256, .inl X))] [(c1, .int)]) (kc_Qv (dC, dI) kcl [(q, .inr (5, [.int th, .ref tx, .int (nI (mAdd X mz v).2), .int fl, .int (bI it), .long al, .ref pt, .int (nI dg), .ref ot, .int (nI wr), .int (nI kz), .ref ka, .ref kd, .ref kp, .int (nI ma), .int (bI wg)])), (tx, .inl (c1, 256, .inl (mAdd X mz v).1))] (va_A [(q, .inr (5, [.int th, .ref tx, .int (nI mz), .int fl, .int (bI it), .long al, .ref pt, .int (nI dg), .ref ot, .int (nI wr), .int (nI kz), .ref ka, .ref kd, .ref kp, .int (nI ma), .int (bI wg)])), (tx, .inl (c1, 256, .inl X))] sz)) 0 0 (va_A [(q, .inr (5, [.int th, .ref tx, .int (nI mz), .int fl, .int (bI it), .long al, .ref pt, .int (nI dg), .ref ot, .int (nI wr), .int (nI kz), .ref ka, .ref kd, .ref kp, .int (nI ma), .int (bI wg)])), (tx, .inl (c1, 256, .inl X))] sz) := by
  refine kc_ofW (Qc := fun A => (kc_Qv (dC, dI) kcl [(q, .inr (5, [.int th, .ref tx, .int (nI (mAdd X mz v).2), .int fl, .int (bI it), .long al, .ref pt, .int (nI dg), .ref ot, .int (nI wr), .int (nI kz), .ref ka, .ref kd, .ref kp, .int (nI ma), .int (bI wg)])), (tx, .inl (c1, 256, .inl (mAdd X mz v).1))] A)) (cc := cX5_add) (maxL := 3) (ret := none) (by decide) rfl (Nat.le_of_ble_eq_true rfl) ?_
  intro p e s m below meth c A ls Cx hA hG hK hP hD hS hl
  obtain ⟨hx, hb, hr, hml, hown, hts, hlocks, hnm⟩ := id Cx
  have hl : lv_has ls 3 [(0, .ref q), (1, .int v)] := hl
  refine lv_bipush (v := 24) hx hb dX5_add_0 (by decide) ?_
  refine lv_istore_n (lv' := [(2, .int 24), (0, .ref q), (1, .int v)]) hx hb dX5_add_2 rfl hl (by decide) rfl (fun ls hl => ?_)
  refine lv_iload_n hx hb dX5_add_3 rfl (lv_at hl 0 rfl) ?_
  refine lv_if_lt (tgt := 39) hx hb dX5_add_4 (by decide) (fun c_4 => ?_) (fun c_4 => ?_)
  · exact absurd c_4 (by decide)
  · refine lv_aload_n hx hb dX5_add_7 rfl (lv_at hl 1 rfl) ?_
    refine va_get (D := (dC, dI)) (ci := 5) (v := .ref tx) (C := RX5) (T := TX5) (N := 16) hx hb hts kin_5 hown hK hP 0 rfl rfl 1 (by decide) (hts _ (kcm kwm_205)) (fun _ h9 => h9) rfl dX5_add_8 ?_
    refine lv_aload_n hx hb dX5_add_11 rfl (lv_at hl 1 rfl) ?_
    refine va_get (D := (dC, dI)) (ci := 5) (v := .int (nI mz)) (C := RX5) (T := TX5) (N := 16) hx hb hts kin_5 hown hK hP 0 rfl rfl 2 (by decide) (hts _ (kcm kwm_206)) (fun _ h9 => h9) rfl dX5_add_12 ?_
    refine lv_iload_n hx hb dX5_add_15 rfl (lv_at hl 2 rfl) ?_
    refine lv_iload_n hx hb dX5_add_16 rfl (lv_at hl 0 rfl) ?_
    refine lv_ishr hx hb dX5_add_17 ?_
    refine lv_sipush (v := 255) hx hb dX5_add_18 (by decide) ?_
    refine lv_iand hx hb dX5_add_21 ?_
    refine va_iast hx hb hK hP hD hS 1 0 rfl rfl (vp_in_nI (by omega) (by decide)) dX5_add_22 (fun H locs hP hD hS => ?_)
    rw [show (nI mz).toNatClampNeg = mz from nI_clamp (by omega)] at hP hD
    have hP : va_P (dC, dI) kcl [(q, .inr (5, [.int th, .ref tx, .int (nI mz), .int fl, .int (bI it), .long al, .ref pt, .int (nI dg), .ref ot, .int (nI wr), .int (nI kz), .ref ka, .ref kd, .ref kp, .int (nI ma), .int (bI wg)])), (tx, .inl (c1, 256, .inl (upd X mz ((v >>> ((24 : Int32) &&& 31)) &&& 255))))] H := hP
    have hD : va_D A [(q, .inr (5, [.int th, .ref tx, .int (nI mz), .int fl, .int (bI it), .long al, .ref pt, .int (nI dg), .ref ot, .int (nI wr), .int (nI kz), .ref ka, .ref kd, .ref kp, .int (nI ma), .int (bI wg)])), (tx, .inl (c1, 256, .inl (upd X mz ((v >>> ((24 : Int32) &&& 31)) &&& 255))))] := hD
    refine lv_aload_n hx hb dX5_add_23 rfl (lv_at hl 1 rfl) ?_
    refine lv_dup hx hb dX5_add_24 rfl ?_
    refine va_get (D := (dC, dI)) (ci := 5) (v := .int (nI mz)) (C := RX5) (T := TX5) (N := 16) hx hb hts kin_5 hown hK hP 0 rfl rfl 2 (by decide) (hts _ (kcm kwm_206)) (fun _ h9 => h9) rfl dX5_add_25 ?_
    refine lv_iconst (v := 1) hx hb dX5_add_28 (by decide) ?_
    refine lv_iadd hx hb dX5_add_29 ?_
    rw [show (nI mz) + 1 = nI (mz + 1) from nI_add mz 1]
    refine va_put (D := (dC, dI)) (ci := 5) (v := .int (nI (mz + 1))) (ty := .int) (C := RX5) (T := TX5) (N := 16) hx hb hts kin_5 tyX5 tyX5_ok nmX5 hown hK hP hD hS 0 rfl rfl 2 (by decide) (hts _ (kcm kwm_206)) (fun _ h9 => h9) rfl (by decide +kernel) rfl rfl (Nat.le_of_ble_eq_true rfl) dX5_add_30 (fun H locs hP hD hS => ?_)
    have hP : va_P (dC, dI) kcl [(q, .inr (5, [.int th, .ref tx, .int (nI (mz + 1)), .int fl, .int (bI it), .long al, .ref pt, .int (nI dg), .ref ot, .int (nI wr), .int (nI kz), .ref ka, .ref kd, .ref kp, .int (nI ma), .int (bI wg)])), (tx, .inl (c1, 256, .inl (upd X mz ((v >>> ((24 : Int32) &&& 31)) &&& 255))))] H := hP
    have hD : va_D A [(q, .inr (5, [.int th, .ref tx, .int (nI (mz + 1)), .int fl, .int (bI it), .long al, .ref pt, .int (nI dg), .ref ot, .int (nI wr), .int (nI kz), .ref ka, .ref kd, .ref kp, .int (nI ma), .int (bI wg)])), (tx, .inl (c1, 256, .inl (upd X mz ((v >>> ((24 : Int32) &&& 31)) &&& 255))))] := hD
    refine lv_iinc (v := 16) (lv' := [(2, .int 16), (0, .ref q), (1, .int v)]) hx hb dX5_add_33 hl (k := 0) rfl (by decide) (by decide) rfl (fun ls hl => ?_)
    refine lv_goto (tgt := 3) hx hb dX5_add_36 (by decide) ?_
    refine lv_iload_n hx hb dX5_add_3 rfl (lv_at hl 0 rfl) ?_
    refine lv_if_lt (tgt := 39) hx hb dX5_add_4 (by decide) (fun c_4 => ?_) (fun c_4 => ?_)
    · exact absurd c_4 (by decide)
    · refine lv_aload_n hx hb dX5_add_7 rfl (lv_at hl 1 rfl) ?_
      refine va_get (D := (dC, dI)) (ci := 5) (v := .ref tx) (C := RX5) (T := TX5) (N := 16) hx hb hts kin_5 hown hK hP 0 rfl rfl 1 (by decide) (hts _ (kcm kwm_205)) (fun _ h9 => h9) rfl dX5_add_8 ?_
      refine lv_aload_n hx hb dX5_add_11 rfl (lv_at hl 1 rfl) ?_
      refine va_get (D := (dC, dI)) (ci := 5) (v := .int (nI (mz + 1))) (C := RX5) (T := TX5) (N := 16) hx hb hts kin_5 hown hK hP 0 rfl rfl 2 (by decide) (hts _ (kcm kwm_206)) (fun _ h9 => h9) rfl dX5_add_12 ?_
      refine lv_iload_n hx hb dX5_add_15 rfl (lv_at hl 2 rfl) ?_
      refine lv_iload_n hx hb dX5_add_16 rfl (lv_at hl 0 rfl) ?_
      refine lv_ishr hx hb dX5_add_17 ?_
      refine lv_sipush (v := 255) hx hb dX5_add_18 (by decide) ?_
      refine lv_iand hx hb dX5_add_21 ?_
      refine va_iast hx hb hK hP hD hS 1 0 rfl rfl (vp_in_nI (by omega) (by decide)) dX5_add_22 (fun H locs hP hD hS => ?_)
      rw [show (nI (mz + 1)).toNatClampNeg = (mz + 1) from nI_clamp (by omega)] at hP hD
      have hP : va_P (dC, dI) kcl [(q, .inr (5, [.int th, .ref tx, .int (nI (mz + 1)), .int fl, .int (bI it), .long al, .ref pt, .int (nI dg), .ref ot, .int (nI wr), .int (nI kz), .ref ka, .ref kd, .ref kp, .int (nI ma), .int (bI wg)])), (tx, .inl (c1, 256, .inl (upd (upd X mz ((v >>> ((24 : Int32) &&& 31)) &&& 255)) (mz + 1) ((v >>> ((16 : Int32) &&& 31)) &&& 255))))] H := hP
      have hD : va_D A [(q, .inr (5, [.int th, .ref tx, .int (nI (mz + 1)), .int fl, .int (bI it), .long al, .ref pt, .int (nI dg), .ref ot, .int (nI wr), .int (nI kz), .ref ka, .ref kd, .ref kp, .int (nI ma), .int (bI wg)])), (tx, .inl (c1, 256, .inl (upd (upd X mz ((v >>> ((24 : Int32) &&& 31)) &&& 255)) (mz + 1) ((v >>> ((16 : Int32) &&& 31)) &&& 255))))] := hD
      refine lv_aload_n hx hb dX5_add_23 rfl (lv_at hl 1 rfl) ?_
      refine lv_dup hx hb dX5_add_24 rfl ?_
      refine va_get (D := (dC, dI)) (ci := 5) (v := .int (nI (mz + 1))) (C := RX5) (T := TX5) (N := 16) hx hb hts kin_5 hown hK hP 0 rfl rfl 2 (by decide) (hts _ (kcm kwm_206)) (fun _ h9 => h9) rfl dX5_add_25 ?_
      refine lv_iconst (v := 1) hx hb dX5_add_28 (by decide) ?_
      refine lv_iadd hx hb dX5_add_29 ?_
      rw [show (nI (mz + 1)) + 1 = nI ((mz + 1) + 1) from nI_add (mz + 1) 1]
      refine va_put (D := (dC, dI)) (ci := 5) (v := .int (nI ((mz + 1) + 1))) (ty := .int) (C := RX5) (T := TX5) (N := 16) hx hb hts kin_5 tyX5 tyX5_ok nmX5 hown hK hP hD hS 0 rfl rfl 2 (by decide) (hts _ (kcm kwm_206)) (fun _ h9 => h9) rfl (by decide +kernel) rfl rfl (Nat.le_of_ble_eq_true rfl) dX5_add_30 (fun H locs hP hD hS => ?_)
      have hP : va_P (dC, dI) kcl [(q, .inr (5, [.int th, .ref tx, .int (nI ((mz + 1) + 1)), .int fl, .int (bI it), .long al, .ref pt, .int (nI dg), .ref ot, .int (nI wr), .int (nI kz), .ref ka, .ref kd, .ref kp, .int (nI ma), .int (bI wg)])), (tx, .inl (c1, 256, .inl (upd (upd X mz ((v >>> ((24 : Int32) &&& 31)) &&& 255)) (mz + 1) ((v >>> ((16 : Int32) &&& 31)) &&& 255))))] H := hP
      have hD : va_D A [(q, .inr (5, [.int th, .ref tx, .int (nI ((mz + 1) + 1)), .int fl, .int (bI it), .long al, .ref pt, .int (nI dg), .ref ot, .int (nI wr), .int (nI kz), .ref ka, .ref kd, .ref kp, .int (nI ma), .int (bI wg)])), (tx, .inl (c1, 256, .inl (upd (upd X mz ((v >>> ((24 : Int32) &&& 31)) &&& 255)) (mz + 1) ((v >>> ((16 : Int32) &&& 31)) &&& 255))))] := hD
      refine lv_iinc (v := 8) (lv' := [(2, .int 8), (0, .ref q), (1, .int v)]) hx hb dX5_add_33 hl (k := 0) rfl (by decide) (by decide) rfl (fun ls hl => ?_)
      refine lv_goto (tgt := 3) hx hb dX5_add_36 (by decide) ?_
      refine lv_iload_n hx hb dX5_add_3 rfl (lv_at hl 0 rfl) ?_
      refine lv_if_lt (tgt := 39) hx hb dX5_add_4 (by decide) (fun c_4 => ?_) (fun c_4 => ?_)
      · exact absurd c_4 (by decide)
      · refine lv_aload_n hx hb dX5_add_7 rfl (lv_at hl 1 rfl) ?_
        refine va_get (D := (dC, dI)) (ci := 5) (v := .ref tx) (C := RX5) (T := TX5) (N := 16) hx hb hts kin_5 hown hK hP 0 rfl rfl 1 (by decide) (hts _ (kcm kwm_205)) (fun _ h9 => h9) rfl dX5_add_8 ?_
        refine lv_aload_n hx hb dX5_add_11 rfl (lv_at hl 1 rfl) ?_
        refine va_get (D := (dC, dI)) (ci := 5) (v := .int (nI ((mz + 1) + 1))) (C := RX5) (T := TX5) (N := 16) hx hb hts kin_5 hown hK hP 0 rfl rfl 2 (by decide) (hts _ (kcm kwm_206)) (fun _ h9 => h9) rfl dX5_add_12 ?_
        refine lv_iload_n hx hb dX5_add_15 rfl (lv_at hl 2 rfl) ?_
        refine lv_iload_n hx hb dX5_add_16 rfl (lv_at hl 0 rfl) ?_
        refine lv_ishr hx hb dX5_add_17 ?_
        refine lv_sipush (v := 255) hx hb dX5_add_18 (by decide) ?_
        refine lv_iand hx hb dX5_add_21 ?_
        refine va_iast hx hb hK hP hD hS 1 0 rfl rfl (vp_in_nI (by omega) (by decide)) dX5_add_22 (fun H locs hP hD hS => ?_)
        rw [show (nI ((mz + 1) + 1)).toNatClampNeg = ((mz + 1) + 1) from nI_clamp (by omega)] at hP hD
        have hP : va_P (dC, dI) kcl [(q, .inr (5, [.int th, .ref tx, .int (nI ((mz + 1) + 1)), .int fl, .int (bI it), .long al, .ref pt, .int (nI dg), .ref ot, .int (nI wr), .int (nI kz), .ref ka, .ref kd, .ref kp, .int (nI ma), .int (bI wg)])), (tx, .inl (c1, 256, .inl (upd (upd (upd X mz ((v >>> ((24 : Int32) &&& 31)) &&& 255)) (mz + 1) ((v >>> ((16 : Int32) &&& 31)) &&& 255)) ((mz + 1) + 1) ((v >>> ((8 : Int32) &&& 31)) &&& 255))))] H := hP
        have hD : va_D A [(q, .inr (5, [.int th, .ref tx, .int (nI ((mz + 1) + 1)), .int fl, .int (bI it), .long al, .ref pt, .int (nI dg), .ref ot, .int (nI wr), .int (nI kz), .ref ka, .ref kd, .ref kp, .int (nI ma), .int (bI wg)])), (tx, .inl (c1, 256, .inl (upd (upd (upd X mz ((v >>> ((24 : Int32) &&& 31)) &&& 255)) (mz + 1) ((v >>> ((16 : Int32) &&& 31)) &&& 255)) ((mz + 1) + 1) ((v >>> ((8 : Int32) &&& 31)) &&& 255))))] := hD
        refine lv_aload_n hx hb dX5_add_23 rfl (lv_at hl 1 rfl) ?_
        refine lv_dup hx hb dX5_add_24 rfl ?_
        refine va_get (D := (dC, dI)) (ci := 5) (v := .int (nI ((mz + 1) + 1))) (C := RX5) (T := TX5) (N := 16) hx hb hts kin_5 hown hK hP 0 rfl rfl 2 (by decide) (hts _ (kcm kwm_206)) (fun _ h9 => h9) rfl dX5_add_25 ?_
        refine lv_iconst (v := 1) hx hb dX5_add_28 (by decide) ?_
        refine lv_iadd hx hb dX5_add_29 ?_
        rw [show (nI ((mz + 1) + 1)) + 1 = nI (((mz + 1) + 1) + 1) from nI_add ((mz + 1) + 1) 1]
        refine va_put (D := (dC, dI)) (ci := 5) (v := .int (nI (((mz + 1) + 1) + 1))) (ty := .int) (C := RX5) (T := TX5) (N := 16) hx hb hts kin_5 tyX5 tyX5_ok nmX5 hown hK hP hD hS 0 rfl rfl 2 (by decide) (hts _ (kcm kwm_206)) (fun _ h9 => h9) rfl (by decide +kernel) rfl rfl (Nat.le_of_ble_eq_true rfl) dX5_add_30 (fun H locs hP hD hS => ?_)
        have hP : va_P (dC, dI) kcl [(q, .inr (5, [.int th, .ref tx, .int (nI (((mz + 1) + 1) + 1)), .int fl, .int (bI it), .long al, .ref pt, .int (nI dg), .ref ot, .int (nI wr), .int (nI kz), .ref ka, .ref kd, .ref kp, .int (nI ma), .int (bI wg)])), (tx, .inl (c1, 256, .inl (upd (upd (upd X mz ((v >>> ((24 : Int32) &&& 31)) &&& 255)) (mz + 1) ((v >>> ((16 : Int32) &&& 31)) &&& 255)) ((mz + 1) + 1) ((v >>> ((8 : Int32) &&& 31)) &&& 255))))] H := hP
        have hD : va_D A [(q, .inr (5, [.int th, .ref tx, .int (nI (((mz + 1) + 1) + 1)), .int fl, .int (bI it), .long al, .ref pt, .int (nI dg), .ref ot, .int (nI wr), .int (nI kz), .ref ka, .ref kd, .ref kp, .int (nI ma), .int (bI wg)])), (tx, .inl (c1, 256, .inl (upd (upd (upd X mz ((v >>> ((24 : Int32) &&& 31)) &&& 255)) (mz + 1) ((v >>> ((16 : Int32) &&& 31)) &&& 255)) ((mz + 1) + 1) ((v >>> ((8 : Int32) &&& 31)) &&& 255))))] := hD
        refine lv_iinc (v := 0) (lv' := [(2, .int 0), (0, .ref q), (1, .int v)]) hx hb dX5_add_33 hl (k := 0) rfl (by decide) (by decide) rfl (fun ls hl => ?_)
        refine lv_goto (tgt := 3) hx hb dX5_add_36 (by decide) ?_
        refine lv_iload_n hx hb dX5_add_3 rfl (lv_at hl 0 rfl) ?_
        refine lv_if_lt (tgt := 39) hx hb dX5_add_4 (by decide) (fun c_4 => ?_) (fun c_4 => ?_)
        · exact absurd c_4 (by decide)
        · refine lv_aload_n hx hb dX5_add_7 rfl (lv_at hl 1 rfl) ?_
          refine va_get (D := (dC, dI)) (ci := 5) (v := .ref tx) (C := RX5) (T := TX5) (N := 16) hx hb hts kin_5 hown hK hP 0 rfl rfl 1 (by decide) (hts _ (kcm kwm_205)) (fun _ h9 => h9) rfl dX5_add_8 ?_
          refine lv_aload_n hx hb dX5_add_11 rfl (lv_at hl 1 rfl) ?_
          refine va_get (D := (dC, dI)) (ci := 5) (v := .int (nI (((mz + 1) + 1) + 1))) (C := RX5) (T := TX5) (N := 16) hx hb hts kin_5 hown hK hP 0 rfl rfl 2 (by decide) (hts _ (kcm kwm_206)) (fun _ h9 => h9) rfl dX5_add_12 ?_
          refine lv_iload_n hx hb dX5_add_15 rfl (lv_at hl 2 rfl) ?_
          refine lv_iload_n hx hb dX5_add_16 rfl (lv_at hl 0 rfl) ?_
          refine lv_ishr hx hb dX5_add_17 ?_
          refine lv_sipush (v := 255) hx hb dX5_add_18 (by decide) ?_
          refine lv_iand hx hb dX5_add_21 ?_
          refine va_iast hx hb hK hP hD hS 1 0 rfl rfl (vp_in_nI (by omega) (by decide)) dX5_add_22 (fun H locs hP hD hS => ?_)
          rw [show (nI (((mz + 1) + 1) + 1)).toNatClampNeg = (((mz + 1) + 1) + 1) from nI_clamp (by omega)] at hP hD
          have hP : va_P (dC, dI) kcl [(q, .inr (5, [.int th, .ref tx, .int (nI (((mz + 1) + 1) + 1)), .int fl, .int (bI it), .long al, .ref pt, .int (nI dg), .ref ot, .int (nI wr), .int (nI kz), .ref ka, .ref kd, .ref kp, .int (nI ma), .int (bI wg)])), (tx, .inl (c1, 256, .inl (upd (upd (upd (upd X mz ((v >>> ((24 : Int32) &&& 31)) &&& 255)) (mz + 1) ((v >>> ((16 : Int32) &&& 31)) &&& 255)) ((mz + 1) + 1) ((v >>> ((8 : Int32) &&& 31)) &&& 255)) (((mz + 1) + 1) + 1) ((v >>> ((0 : Int32) &&& 31)) &&& 255))))] H := hP
          have hD : va_D A [(q, .inr (5, [.int th, .ref tx, .int (nI (((mz + 1) + 1) + 1)), .int fl, .int (bI it), .long al, .ref pt, .int (nI dg), .ref ot, .int (nI wr), .int (nI kz), .ref ka, .ref kd, .ref kp, .int (nI ma), .int (bI wg)])), (tx, .inl (c1, 256, .inl (upd (upd (upd (upd X mz ((v >>> ((24 : Int32) &&& 31)) &&& 255)) (mz + 1) ((v >>> ((16 : Int32) &&& 31)) &&& 255)) ((mz + 1) + 1) ((v >>> ((8 : Int32) &&& 31)) &&& 255)) (((mz + 1) + 1) + 1) ((v >>> ((0 : Int32) &&& 31)) &&& 255))))] := hD
          refine lv_aload_n hx hb dX5_add_23 rfl (lv_at hl 1 rfl) ?_
          refine lv_dup hx hb dX5_add_24 rfl ?_
          refine va_get (D := (dC, dI)) (ci := 5) (v := .int (nI (((mz + 1) + 1) + 1))) (C := RX5) (T := TX5) (N := 16) hx hb hts kin_5 hown hK hP 0 rfl rfl 2 (by decide) (hts _ (kcm kwm_206)) (fun _ h9 => h9) rfl dX5_add_25 ?_
          refine lv_iconst (v := 1) hx hb dX5_add_28 (by decide) ?_
          refine lv_iadd hx hb dX5_add_29 ?_
          rw [show (nI (((mz + 1) + 1) + 1)) + 1 = nI ((((mz + 1) + 1) + 1) + 1) from nI_add (((mz + 1) + 1) + 1) 1]
          refine va_put (D := (dC, dI)) (ci := 5) (v := .int (nI ((((mz + 1) + 1) + 1) + 1))) (ty := .int) (C := RX5) (T := TX5) (N := 16) hx hb hts kin_5 tyX5 tyX5_ok nmX5 hown hK hP hD hS 0 rfl rfl 2 (by decide) (hts _ (kcm kwm_206)) (fun _ h9 => h9) rfl (by decide +kernel) rfl rfl (Nat.le_of_ble_eq_true rfl) dX5_add_30 (fun H locs hP hD hS => ?_)
          have hP : va_P (dC, dI) kcl [(q, .inr (5, [.int th, .ref tx, .int (nI ((((mz + 1) + 1) + 1) + 1)), .int fl, .int (bI it), .long al, .ref pt, .int (nI dg), .ref ot, .int (nI wr), .int (nI kz), .ref ka, .ref kd, .ref kp, .int (nI ma), .int (bI wg)])), (tx, .inl (c1, 256, .inl (upd (upd (upd (upd X mz ((v >>> ((24 : Int32) &&& 31)) &&& 255)) (mz + 1) ((v >>> ((16 : Int32) &&& 31)) &&& 255)) ((mz + 1) + 1) ((v >>> ((8 : Int32) &&& 31)) &&& 255)) (((mz + 1) + 1) + 1) ((v >>> ((0 : Int32) &&& 31)) &&& 255))))] H := hP
          have hD : va_D A [(q, .inr (5, [.int th, .ref tx, .int (nI ((((mz + 1) + 1) + 1) + 1)), .int fl, .int (bI it), .long al, .ref pt, .int (nI dg), .ref ot, .int (nI wr), .int (nI kz), .ref ka, .ref kd, .ref kp, .int (nI ma), .int (bI wg)])), (tx, .inl (c1, 256, .inl (upd (upd (upd (upd X mz ((v >>> ((24 : Int32) &&& 31)) &&& 255)) (mz + 1) ((v >>> ((16 : Int32) &&& 31)) &&& 255)) ((mz + 1) + 1) ((v >>> ((8 : Int32) &&& 31)) &&& 255)) (((mz + 1) + 1) + 1) ((v >>> ((0 : Int32) &&& 31)) &&& 255))))] := hD
          refine lv_iinc (v := (-8)) (lv' := [(2, .int (-8)), (0, .ref q), (1, .int v)]) hx hb dX5_add_33 hl (k := 0) rfl (by decide) (by decide) rfl (fun ls hl => ?_)
          refine lv_goto (tgt := 3) hx hb dX5_add_36 (by decide) ?_
          refine lv_iload_n hx hb dX5_add_3 rfl (lv_at hl 0 rfl) ?_
          refine lv_if_lt (tgt := 39) hx hb dX5_add_4 (by decide) (fun c_4 => ?_) (fun c_4 => ?_)
          · have hF9 : mAdd X mz v = (upd (upd (upd (upd X mz ((v >>> ((24 : Int32) &&& 31)) &&& 255)) (mz + 1) ((v >>> ((16 : Int32) &&& 31)) &&& 255)) ((mz + 1) + 1) ((v >>> ((8 : Int32) &&& 31)) &&& 255)) (((mz + 1) + 1) + 1) ((v >>> ((0 : Int32) &&& 31)) &&& 255), ((((mz + 1) + 1) + 1) + 1)) := by
              first | (simp only [mAdd]; done) | rfl
            have hP9 : va_P (dC, dI) kcl [(q, .inr (5, [.int th, .ref tx, .int (nI (mAdd X mz v).2), .int fl, .int (bI it), .long al, .ref pt, .int (nI dg), .ref ot, .int (nI wr), .int (nI kz), .ref ka, .ref kd, .ref kp, .int (nI ma), .int (bI wg)])), (tx, .inl (c1, 256, .inl (mAdd X mz v).1))] H := by
              try rw [hF9]
              exact hP.sub [0, 1] rfl
            have hD9 : va_D A [(q, .inr (5, [.int th, .ref tx, .int (nI (mAdd X mz v).2), .int fl, .int (bI it), .long al, .ref pt, .int (nI dg), .ref ot, .int (nI wr), .int (nI kz), .ref ka, .ref kd, .ref kp, .int (nI ma), .int (bI wg)])), (tx, .inl (c1, 256, .inl (mAdd X mz v).1))] := by
              try rw [hF9]
              exact hD.sub [0, 1] (by decide) rfl
            exact kc_vret hx hb hr hlocks hP9 hD9 hS dX5_add_39
          · exact absurd (by decide) c_4
def mLeap (y : Int32) : Bool :=
  if (y - y / 4 * 4) = 0 then
    if (y - y / 100 * 100) = 0 then
      if (y - y / 400 * 400) = 0 then
        true
      else
        false
    else
      true
  else
    false
set_option maxHeartbeats 4000000 in
set_option maxRecDepth 100000 in
theorem m_isLeap (l : Launch) (dC : Nat → ClassId) (dI : Nat → Nat → Nat) (st sz : Nat) (y : Int32)  : Met l yX5_isLeap wsX5_isLeap ({ frames := 0, cells := 0, slots := 0, locals := 0 }) (kc_Pc (dC, dI) kcl st sz [.int y] [] []) (vp_Si (fun r => r = bI (mLeap y))) 0 0 (fun _ => False) := by
  refine kc_ofS (cc := cX5_isLeap) (maxL := 1) (ret := (some .boolean)) (by decide) rfl (Nat.le_of_ble_eq_true rfl) ?_
  intro p e s m below meth c A ls Cx hA hG hK hP hD hS hl
  obtain ⟨hx, hb, hr, hml, hown, hts, hlocks, hnm⟩ := id Cx
  have hl : lv_has ls 1 [(0, .int y)] := hl
  refine lv_iload_n hx hb dX5_isLeap_0 rfl (lv_at hl 0 rfl) ?_
  refine lv_iconst (v := 4) hx hb dX5_isLeap_1 (by decide) ?_
  refine lv_irem hx hb dX5_isLeap_2 (by decide) ?_
  refine lv_if_ne (tgt := 25) hx hb dX5_isLeap_3 (by decide) (fun c_3 => ?_) (fun c_3 => ?_)
  · refine lv_iconst (v := 0) hx hb dX5_isLeap_25 (by decide) ?_
    have hF9 : mLeap y = false := by
      first | (simp only [mLeap, if_neg c_3]; done) | rfl
    have hv9 : (0 : Int32) = bI (mLeap y) := by
      try rw [hF9]
      try rfl
    exact kc_Szret hx hb hr hlocks hv9 (bI_nar hv9) dX5_isLeap_26
  · refine lv_iload_n hx hb dX5_isLeap_6 rfl (lv_at hl 0 rfl) ?_
    refine lv_bipush (v := 100) hx hb dX5_isLeap_7 (by decide) ?_
    refine lv_irem hx hb dX5_isLeap_9 (by decide) ?_
    refine lv_if_ne (tgt := 21) hx hb dX5_isLeap_10 (by decide) (fun c_10 => ?_) (fun c_10 => ?_)
    · refine lv_iconst (v := 1) hx hb dX5_isLeap_21 (by decide) ?_
      refine lv_goto (tgt := 26) hx hb dX5_isLeap_22 (by decide) ?_
      have hF9 : mLeap y = true := by
        first | (simp only [mLeap, if_pos c_3, if_neg c_10]; done) | rfl
      have hv9 : (1 : Int32) = bI (mLeap y) := by
        try rw [hF9]
        try rfl
      exact kc_Szret hx hb hr hlocks hv9 (bI_nar hv9) dX5_isLeap_26
    · refine lv_iload_n hx hb dX5_isLeap_13 rfl (lv_at hl 0 rfl) ?_
      refine lv_sipush (v := 400) hx hb dX5_isLeap_14 (by decide) ?_
      refine lv_irem hx hb dX5_isLeap_17 (by decide) ?_
      refine lv_if_ne (tgt := 25) hx hb dX5_isLeap_18 (by decide) (fun c_18 => ?_) (fun c_18 => ?_)
      · refine lv_iconst (v := 0) hx hb dX5_isLeap_25 (by decide) ?_
        have hF9 : mLeap y = false := by
          first | (simp only [mLeap, if_pos c_3, if_pos c_10, if_neg c_18]; done) | rfl
        have hv9 : (0 : Int32) = bI (mLeap y) := by
          try rw [hF9]
          try rfl
        exact kc_Szret hx hb hr hlocks hv9 (bI_nar hv9) dX5_isLeap_26
      · refine lv_iconst (v := 1) hx hb dX5_isLeap_21 (by decide) ?_
        refine lv_goto (tgt := 26) hx hb dX5_isLeap_22 (by decide) ?_
        have hF9 : mLeap y = true := by
          first | (simp only [mLeap, if_pos c_3, if_pos c_10, if_pos c_18]; done) | rfl
        have hv9 : (1 : Int32) = bI (mLeap y) := by
          try rw [hF9]
          try rfl
        exact kc_Szret hx hb hr hlocks hv9 (bI_nar hv9) dX5_isLeap_26
def mDays (y mo : Int32) : Int32 :=
  if mo = 2 then
    if (bI (mLeap y)) = 0 then
      28
    else
      29
  else
    if mo = 4 then
      30
    else
      if mo = 6 then
        30
      else
        if mo = 9 then
          30
        else
          if mo = 11 then
            30
          else
            31
set_option maxHeartbeats 4000000 in
set_option maxRecDepth 100000 in
theorem m_daysOf (l : Launch) (dC : Nat → ClassId) (dI : Nat → Nat → Nat) (st sz : Nat) (y : Int32) (mo : Int32)  : Met l yX5_daysOf wsX5_daysOf ({ frames := 1, cells := 0, slots := 0, locals := 20 }) (kc_Pc (dC, dI) kcl st sz [.int y, .int mo] [] []) (vp_Si (fun r => r = mDays y mo)) 0 0 (fun _ => False) := by
  refine kc_ofS (cc := cX5_daysOf) (maxL := 2) (ret := (some .int)) (by decide) rfl (Nat.le_of_ble_eq_true rfl) ?_
  intro p e s m below meth c A ls Cx hA hG hK hP hD hS hl
  obtain ⟨hx, hb, hr, hml, hown, hts, hlocks, hnm⟩ := id Cx
  have hl : lv_has ls 2 [(0, .int y), (1, .int mo)] := hl
  refine lv_iload_n hx hb dX5_daysOf_0 rfl (lv_at hl 1 rfl) ?_
  refine lv_iconst (v := 2) hx hb dX5_daysOf_1 (by decide) ?_
  refine lv_icmp_ne (tgt := 20) hx hb dX5_daysOf_2 (by decide) (fun c_2 => ?_) (fun c_2 => ?_)
  · refine lv_iload_n hx hb dX5_daysOf_20 rfl (lv_at hl 1 rfl) ?_
    refine lv_iconst (v := 4) hx hb dX5_daysOf_21 (by decide) ?_
    refine lv_icmp_eq (tgt := 43) hx hb dX5_daysOf_22 (by decide) (fun c_22 => ?_) (fun c_22 => ?_)
    · refine lv_bipush (v := 30) hx hb dX5_daysOf_43 (by decide) ?_
      refine lv_goto (tgt := 50) hx hb dX5_daysOf_45 (by decide) ?_
      have hF9 : mDays y mo = 30 := by
        first | (simp only [mDays, if_neg c_2, if_pos c_22]; done) | rfl
      have hv9 : (30 : Int32) = mDays y mo := by
        try rw [hF9]
        try rfl
      exact kc_Siret hx hb hr hlocks hv9 dX5_daysOf_50
    · refine lv_iload_n hx hb dX5_daysOf_25 rfl (lv_at hl 1 rfl) ?_
      refine lv_bipush (v := 6) hx hb dX5_daysOf_26 (by decide) ?_
      refine lv_icmp_eq (tgt := 43) hx hb dX5_daysOf_28 (by decide) (fun c_28 => ?_) (fun c_28 => ?_)
      · refine lv_bipush (v := 30) hx hb dX5_daysOf_43 (by decide) ?_
        refine lv_goto (tgt := 50) hx hb dX5_daysOf_45 (by decide) ?_
        have hF9 : mDays y mo = 30 := by
          first | (simp only [mDays, if_neg c_2, if_neg c_22, if_pos c_28]; done) | rfl
        have hv9 : (30 : Int32) = mDays y mo := by
          try rw [hF9]
          try rfl
        exact kc_Siret hx hb hr hlocks hv9 dX5_daysOf_50
      · refine lv_iload_n hx hb dX5_daysOf_31 rfl (lv_at hl 1 rfl) ?_
        refine lv_bipush (v := 9) hx hb dX5_daysOf_32 (by decide) ?_
        refine lv_icmp_eq (tgt := 43) hx hb dX5_daysOf_34 (by decide) (fun c_34 => ?_) (fun c_34 => ?_)
        · refine lv_bipush (v := 30) hx hb dX5_daysOf_43 (by decide) ?_
          refine lv_goto (tgt := 50) hx hb dX5_daysOf_45 (by decide) ?_
          have hF9 : mDays y mo = 30 := by
            first | (simp only [mDays, if_neg c_2, if_neg c_22, if_neg c_28, if_pos c_34]; done) | rfl
          have hv9 : (30 : Int32) = mDays y mo := by
            try rw [hF9]
            try rfl
          exact kc_Siret hx hb hr hlocks hv9 dX5_daysOf_50
        · refine lv_iload_n hx hb dX5_daysOf_37 rfl (lv_at hl 1 rfl) ?_
          refine lv_bipush (v := 11) hx hb dX5_daysOf_38 (by decide) ?_
          refine lv_icmp_ne (tgt := 48) hx hb dX5_daysOf_40 (by decide) (fun c_40 => ?_) (fun c_40 => ?_)
          · refine lv_bipush (v := 31) hx hb dX5_daysOf_48 (by decide) ?_
            have hF9 : mDays y mo = 31 := by
              first | (simp only [mDays, if_neg c_2, if_neg c_22, if_neg c_28, if_neg c_34, if_neg c_40]; done) | rfl
            have hv9 : (31 : Int32) = mDays y mo := by
              try rw [hF9]
              try rfl
            exact kc_Siret hx hb hr hlocks hv9 dX5_daysOf_50
          · refine lv_bipush (v := 30) hx hb dX5_daysOf_43 (by decide) ?_
            refine lv_goto (tgt := 50) hx hb dX5_daysOf_45 (by decide) ?_
            have hF9 : mDays y mo = 30 := by
              first | (simp only [mDays, if_neg c_2, if_neg c_22, if_neg c_28, if_neg c_34, if_pos c_40]; done) | rfl
            have hv9 : (30 : Int32) = mDays y mo := by
              try rw [hF9]
              try rfl
            exact kc_Siret hx hb hr hlocks hv9 dX5_daysOf_50
  · refine lv_iload_n hx hb dX5_daysOf_5 rfl (lv_at hl 0 rfl) ?_
    have hPc := hP.sub (ws' := []) [] rfl
    have hDc := hD.sub (ws' := []) [] (by decide) rfl
    have hKc := hK.sub (tys' := []) [] rfl
    have hFc := va_free (wc := []) hD hS hA [] rfl
    refine kc_callSi (val := bI (mLeap y)) (va_runS (As := [.int y]) (rest := []) ⟨hx, hb, hml, hown, hts⟩ (m_isLeap l dC dI st s.heap.size y ) (va_cwS 1 hts (kwS kwm_201 kwm_202 kwm_203 kwm_200) rfl rfl rfl (by decide +kernel) ⟨Nat.le_of_ble_eq_true rfl, Nat.le_of_ble_eq_true rfl⟩) ⟨kc_blind, kc_pre hG hS hFc hKc hPc hDc⟩ rfl rfl hl.1 rfl (lv_room (Nat.le_of_ble_eq_true rfl)) dX5_daysOf_6 ⟨Nat.le_of_ble_eq_true rfl, Nat.le_of_ble_eq_true rfl⟩) ?_
    refine lv_if_eq (tgt := 17) hx hb dX5_daysOf_9 (by decide) (fun c_9 => ?_) (fun c_9 => ?_)
    · refine lv_bipush (v := 28) hx hb dX5_daysOf_17 (by decide) ?_
      have hF9 : mDays y mo = 28 := by
        first | (simp only [mDays, if_pos c_2, if_pos c_9]; done) | rfl
      have hv9 : (28 : Int32) = mDays y mo := by
        try rw [hF9]
        try rfl
      exact kc_Siret hx hb hr hlocks hv9 dX5_daysOf_19
    · refine lv_bipush (v := 29) hx hb dX5_daysOf_12 (by decide) ?_
      refine lv_goto (tgt := 19) hx hb dX5_daysOf_14 (by decide) ?_
      have hF9 : mDays y mo = 29 := by
        first | (simp only [mDays, if_pos c_2, if_neg c_9]; done) | rfl
      have hv9 : (29 : Int32) = mDays y mo := by
        try rw [hF9]
        try rfl
      exact kc_Siret hx hb hr hlocks hv9 dX5_daysOf_19
def mTo (y : Int32) : Int32 :=
  (((365 * y) + ((y + 3) / 4)) - ((y + 99) / 100)) + ((y + 399) / 400)
set_option maxHeartbeats 4000000 in
set_option maxRecDepth 100000 in
theorem m_daysTo (l : Launch) (dC : Nat → ClassId) (dI : Nat → Nat → Nat) (st sz : Nat) (y : Int32)  : Met l yX5_daysTo wsX5_daysTo ({ frames := 0, cells := 0, slots := 0, locals := 0 }) (kc_Pc (dC, dI) kcl st sz [.int y] [] []) (vp_Si (fun r => r = mTo y)) 0 0 (fun _ => False) := by
  refine kc_ofS (cc := cX5_daysTo) (maxL := 1) (ret := (some .int)) (by decide) rfl (Nat.le_of_ble_eq_true rfl) ?_
  intro p e s m below meth c A ls Cx hA hG hK hP hD hS hl
  obtain ⟨hx, hb, hr, hml, hown, hts, hlocks, hnm⟩ := id Cx
  have hl : lv_has ls 1 [(0, .int y)] := hl
  refine lv_sipush (v := 365) hx hb dX5_daysTo_0 (by decide) ?_
  refine lv_iload_n hx hb dX5_daysTo_3 rfl (lv_at hl 0 rfl) ?_
  refine lv_imul hx hb dX5_daysTo_4 ?_
  refine lv_iload_n hx hb dX5_daysTo_5 rfl (lv_at hl 0 rfl) ?_
  refine lv_iconst (v := 3) hx hb dX5_daysTo_6 (by decide) ?_
  refine lv_iadd hx hb dX5_daysTo_7 ?_
  refine lv_iconst (v := 4) hx hb dX5_daysTo_8 (by decide) ?_
  refine lv_idiv hx hb dX5_daysTo_9 (by decide) ?_
  refine lv_iadd hx hb dX5_daysTo_10 ?_
  refine lv_iload_n hx hb dX5_daysTo_11 rfl (lv_at hl 0 rfl) ?_
  refine lv_bipush (v := 99) hx hb dX5_daysTo_12 (by decide) ?_
  refine lv_iadd hx hb dX5_daysTo_14 ?_
  refine lv_bipush (v := 100) hx hb dX5_daysTo_15 (by decide) ?_
  refine lv_idiv hx hb dX5_daysTo_17 (by decide) ?_
  refine lv_isub hx hb dX5_daysTo_18 ?_
  refine lv_iload_n hx hb dX5_daysTo_19 rfl (lv_at hl 0 rfl) ?_
  refine lv_sipush (v := 399) hx hb dX5_daysTo_20 (by decide) ?_
  refine lv_iadd hx hb dX5_daysTo_23 ?_
  refine lv_sipush (v := 400) hx hb dX5_daysTo_24 (by decide) ?_
  refine lv_idiv hx hb dX5_daysTo_27 (by decide) ?_
  refine lv_iadd hx hb dX5_daysTo_28 ?_
  have hF9 : mTo y = (((365 * y) + ((y + 3) / 4)) - ((y + 99) / 100)) + ((y + 399) / 400) := by
    first | (simp only [mTo]; done) | rfl
  have hv9 : (((365 * y) + ((y + 3) / 4)) - ((y + 99) / 100)) + ((y + 399) / 400) = mTo y := by
    try rw [hF9]
    try rfl
  exact kc_Siret hx hb hr hlocks hv9 dX5_daysTo_29
