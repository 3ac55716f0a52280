abbrev cX5_again : ByteArray := prog_7_method_27_code
def yX5_again : MethodName := ⟨RX5, "again", "()I"⟩
abbrev cX5_between : ByteArray := prog_7_method_35_code
def yX5_between : MethodName := ⟨RX5, "between", "(II)J"⟩
abbrev cX5_keep : ByteArray := prog_7_method_31_code
def yX5_keep : MethodName := ⟨RX5, "keep", "()I"⟩
abbrev wsX5_again : List Cond := .code yX5_again cX5_again 2 (some .int) :: kw
abbrev wsX5_between : List Cond := .code yX5_between cX5_between 3 (some .long) :: kw
abbrev wsX5_keep : List Cond := .code yX5_keep cX5_keep 2 (some .int) :: kw
theorem kwm_291 : (.code yX5_isKept cX5_isKept 2 (some .boolean) : Cond) ∈ kw := kw_in (i := 702) (by decide +kernel) (by decide +kernel)
theorem kwm_292 : (.methodLink RX5 134 yX5_isKept : Cond) ∈ kw := kw_in (i := 699) (by decide +kernel) (by decide +kernel)
theorem kwm_293 : (.instanceMethod yX5_isKept : Cond) ∈ kw := kw_in (i := 701) (by decide +kernel) (by decide +kernel)
theorem kwm_294 : (.selects RX5 yX5_isKept yX5_isKept : Cond) ∈ kw := kw_in (i := 30) (by decide +kernel) (by decide +kernel)
theorem kwm_295 : (.fieldLink RX5 19 "ClockTextsModel" "keptAll" "[J" : Cond) ∈ kw := kw_in (i := 540) (by decide +kernel) (by decide +kernel)
theorem kwm_296 : (.fieldLink RX5 26 "ClockTextsModel" "keptPart" "[I" : Cond) ∈ kw := kw_in (i := 542) (by decide +kernel) (by decide +kernel)
theorem kwm_297 : (.fieldLink RX5 23 "ClockTextsModel" "keptDigits" "[I" : Cond) ∈ kw := kw_in (i := 541) (by decide +kernel) (by decide +kernel)
theorem dX5_between_0 : decode cX5_between 0 = .ok (.aload_n 0, 1) := by decide +kernel
theorem dX5_between_1 : decode cX5_between 1 = .ok (.aload_n 0, 1) := by decide +kernel
theorem dX5_between_2 : decode cX5_between 2 = .ok (.iload_n 1, 1) := by decide +kernel
theorem dX5_between_3 : decode cX5_between 3 = .ok (.invokevirtual 134, 3) := by decide +kernel
theorem dX5_between_6 : decode cX5_between 6 = .ok (.ifCond .eq 15, 3) := by decide +kernel
theorem dX5_between_9 : decode cX5_between 9 = .ok (.aload_n 0, 1) := by decide +kernel
theorem dX5_between_10 : decode cX5_between 10 = .ok (.iload_n 2, 1) := by decide +kernel
theorem dX5_between_11 : decode cX5_between 11 = .ok (.invokevirtual 134, 3) := by decide +kernel
theorem dX5_between_14 : decode cX5_between 14 = .ok (.ifCond .eq 7, 3) := by decide +kernel
theorem dX5_between_17 : decode cX5_between 17 = .ok (.iconst 0, 1) := by decide +kernel
theorem dX5_between_18 : decode cX5_between 18 = .ok (.goto 4, 3) := by decide +kernel
theorem dX5_between_21 : decode cX5_between 21 = .ok (.iconst 1, 1) := by decide +kernel
theorem dX5_between_22 : decode cX5_between 22 = .ok (.putfield 29, 3) := by decide +kernel
theorem dX5_between_25 : decode cX5_between 25 = .ok (.aload_n 0, 1) := by decide +kernel
theorem dX5_between_26 : decode cX5_between 26 = .ok (.getfield 29, 3) := by decide +kernel
theorem dX5_between_29 : decode cX5_between 29 = .ok (.ifCond .le 7, 3) := by decide +kernel
theorem dX5_between_32 : decode cX5_between 32 = .ok (.lconst 0, 1) := by decide +kernel
theorem dX5_between_33 : decode cX5_between 33 = .ok (.goto 16, 3) := by decide +kernel
theorem dX5_between_36 : decode cX5_between 36 = .ok (.aload_n 0, 1) := by decide +kernel
theorem dX5_between_37 : decode cX5_between 37 = .ok (.getfield 19, 3) := by decide +kernel
theorem dX5_between_40 : decode cX5_between 40 = .ok (.iload_n 2, 1) := by decide +kernel
theorem dX5_between_41 : decode cX5_between 41 = .ok (.laload, 1) := by decide +kernel
theorem dX5_between_42 : decode cX5_between 42 = .ok (.aload_n 0, 1) := by decide +kernel
theorem dX5_between_43 : decode cX5_between 43 = .ok (.getfield 19, 3) := by decide +kernel
theorem dX5_between_46 : decode cX5_between 46 = .ok (.iload_n 1, 1) := by decide +kernel
theorem dX5_between_47 : decode cX5_between 47 = .ok (.laload, 1) := by decide +kernel
theorem dX5_between_48 : decode cX5_between 48 = .ok (.lsub, 1) := by decide +kernel
theorem dX5_between_49 : decode cX5_between 49 = .ok (.lreturn, 1) := by decide +kernel
theorem dX5_again_0 : decode cX5_again 0 = .ok (.aload_n 0, 1) := by decide +kernel
theorem dX5_again_1 : decode cX5_again 1 = .ok (.aload_n 0, 1) := by decide +kernel
theorem dX5_again_2 : decode cX5_again 2 = .ok (.getfield 115, 3) := by decide +kernel
theorem dX5_again_5 : decode cX5_again 5 = .ok (.ifCond .eq 7, 3) := by decide +kernel
theorem dX5_again_8 : decode cX5_again 8 = .ok (.iconst 0, 1) := by decide +kernel
theorem dX5_again_9 : decode cX5_again 9 = .ok (.goto 4, 3) := by decide +kernel
theorem dX5_again_12 : decode cX5_again 12 = .ok (.iconst 1, 1) := by decide +kernel
theorem dX5_again_13 : decode cX5_again 13 = .ok (.putfield 29, 3) := by decide +kernel
theorem dX5_again_16 : decode cX5_again 16 = .ok (.aload_n 0, 1) := by decide +kernel
theorem dX5_again_17 : decode cX5_again 17 = .ok (.getfield 29, 3) := by decide +kernel
theorem dX5_again_20 : decode cX5_again 20 = .ok (.ifCond .le 5, 3) := by decide +kernel
theorem dX5_again_23 : decode cX5_again 23 = .ok (.iconst 0, 1) := by decide +kernel
theorem dX5_again_24 : decode cX5_again 24 = .ok (.ireturn, 1) := by decide +kernel
theorem dX5_again_25 : decode cX5_again 25 = .ok (.iconst 0, 1) := by decide +kernel
theorem dX5_again_26 : decode cX5_again 26 = .ok (.istore_n 1, 1) := by decide +kernel
theorem dX5_again_27 : decode cX5_again 27 = .ok (.iload_n 1, 1) := by decide +kernel
theorem dX5_again_28 : decode cX5_again 28 = .ok (.aload_n 0, 1) := by decide +kernel
theorem dX5_again_29 : decode cX5_again 29 = .ok (.getfield 112, 3) := by decide +kernel
theorem dX5_again_32 : decode cX5_again 32 = .ok (.if_icmp .ge 21, 3) := by decide +kernel
theorem dX5_again_35 : decode cX5_again 35 = .ok (.aload_n 0, 1) := by decide +kernel
theorem dX5_again_36 : decode cX5_again 36 = .ok (.getfield 7, 3) := by decide +kernel
theorem dX5_again_39 : decode cX5_again 39 = .ok (.iload_n 1, 1) := by decide +kernel
theorem dX5_again_40 : decode cX5_again 40 = .ok (.aload_n 0, 1) := by decide +kernel
theorem dX5_again_41 : decode cX5_again 41 = .ok (.getfield 16, 3) := by decide +kernel
theorem dX5_again_44 : decode cX5_again 44 = .ok (.iload_n 1, 1) := by decide +kernel
theorem dX5_again_45 : decode cX5_again 45 = .ok (.iaload, 1) := by decide +kernel
theorem dX5_again_46 : decode cX5_again 46 = .ok (.iastore, 1) := by decide +kernel
theorem dX5_again_47 : decode cX5_again 47 = .ok (.iinc 1 1, 3) := by decide +kernel
theorem dX5_again_50 : decode cX5_again 50 = .ok (.goto (-23), 3) := by decide +kernel
theorem dX5_again_53 : decode cX5_again 53 = .ok (.aload_n 0, 1) := by decide +kernel
theorem dX5_again_54 : decode cX5_again 54 = .ok (.aload_n 0, 1) := by decide +kernel
theorem dX5_again_55 : decode cX5_again 55 = .ok (.getfield 112, 3) := by decide +kernel
theorem dX5_again_58 : decode cX5_again 58 = .ok (.putfield 33, 3) := by decide +kernel
theorem dX5_again_61 : decode cX5_again 61 = .ok (.aload_n 0, 1) := by decide +kernel
theorem dX5_again_62 : decode cX5_again 62 = .ok (.getfield 33, 3) := by decide +kernel
theorem dX5_again_65 : decode cX5_again 65 = .ok (.ireturn, 1) := by decide +kernel
theorem dX5_keep_0 : decode cX5_keep 0 = .ok (.aload_n 0, 1) := by decide +kernel
theorem dX5_keep_1 : decode cX5_keep 1 = .ok (.aload_n 0, 1) := by decide +kernel
theorem dX5_keep_2 : decode cX5_keep 2 = .ok (.getfield 115, 3) := by decide +kernel
theorem dX5_keep_5 : decode cX5_keep 5 = .ok (.ifCond .ne 7, 3) := by decide +kernel
theorem dX5_keep_8 : decode cX5_keep 8 = .ok (.iconst 1, 1) := by decide +kernel
theorem dX5_keep_9 : decode cX5_keep 9 = .ok (.goto 17, 3) := by decide +kernel
theorem dX5_keep_12 : decode cX5_keep 12 = .ok (.aload_n 0, 1) := by decide +kernel
theorem dX5_keep_13 : decode cX5_keep 13 = .ok (.getfield 131, 3) := by decide +kernel
theorem dX5_keep_16 : decode cX5_keep 16 = .ok (.bipush 40, 2) := by decide +kernel
theorem dX5_keep_18 : decode cX5_keep 18 = .ok (.if_icmp .ne 7, 3) := by decide +kernel
theorem dX5_keep_21 : decode cX5_keep 21 = .ok (.iconst 2, 1) := by decide +kernel
theorem dX5_keep_22 : decode cX5_keep 22 = .ok (.goto 4, 3) := by decide +kernel
theorem dX5_keep_25 : decode cX5_keep 25 = .ok (.iconst 0, 1) := by decide +kernel
theorem dX5_keep_26 : decode cX5_keep 26 = .ok (.putfield 29, 3) := by decide +kernel
theorem dX5_keep_29 : decode cX5_keep 29 = .ok (.aload_n 0, 1) := by decide +kernel
theorem dX5_keep_30 : decode cX5_keep 30 = .ok (.getfield 29, 3) := by decide +kernel
theorem dX5_keep_33 : decode cX5_keep 33 = .ok (.ifCond .le 5, 3) := by decide +kernel
theorem dX5_keep_36 : decode cX5_keep 36 = .ok (.iconst 0, 1) := by decide +kernel
theorem dX5_keep_37 : decode cX5_keep 37 = .ok (.ireturn, 1) := by decide +kernel
theorem dX5_keep_38 : decode cX5_keep 38 = .ok (.aload_n 0, 1) := by decide +kernel
theorem dX5_keep_39 : decode cX5_keep 39 = .ok (.getfield 19, 3) := by decide +kernel
theorem dX5_keep_42 : decode cX5_keep 42 = .ok (.aload_n 0, 1) := by decide +kernel
theorem dX5_keep_43 : decode cX5_keep 43 = .ok (.getfield 131, 3) := by decide +kernel
theorem dX5_keep_46 : decode cX5_keep 46 = .ok (.aload_n 0, 1) := by decide +kernel
theorem dX5_keep_47 : decode cX5_keep 47 = .ok (.getfield 52, 3) := by decide +kernel
theorem dX5_keep_50 : decode cX5_keep 50 = .ok (.lastore, 1) := by decide +kernel
theorem dX5_keep_51 : decode cX5_keep 51 = .ok (.aload_n 0, 1) := by decide +kernel
theorem dX5_keep_52 : decode cX5_keep 52 = .ok (.getfield 23, 3) := by decide +kernel
theorem dX5_keep_55 : decode cX5_keep 55 = .ok (.aload_n 0, 1) := by decide +kernel
theorem dX5_keep_56 : decode cX5_keep 56 = .ok (.getfield 131, 3) := by decide +kernel
theorem dX5_keep_59 : decode cX5_keep 59 = .ok (.aload_n 0, 1) := by decide +kernel
theorem dX5_keep_60 : decode cX5_keep 60 = .ok (.getfield 79, 3) := by decide +kernel
theorem dX5_keep_63 : decode cX5_keep 63 = .ok (.iastore, 1) := by decide +kernel
theorem dX5_keep_64 : decode cX5_keep 64 = .ok (.iconst 0, 1) := by decide +kernel
theorem dX5_keep_65 : decode cX5_keep 65 = .ok (.istore_n 1, 1) := by decide +kernel
theorem dX5_keep_66 : decode cX5_keep 66 = .ok (.iload_n 1, 1) := by decide +kernel
theorem dX5_keep_67 : decode cX5_keep 67 = .ok (.aload_n 0, 1) := by decide +kernel
theorem dX5_keep_68 : decode cX5_keep 68 = .ok (.getfield 79, 3) := by decide +kernel
theorem dX5_keep_71 : decode cX5_keep 71 = .ok (.if_icmp .ge 30, 3) := by decide +kernel
theorem dX5_keep_74 : decode cX5_keep 74 = .ok (.aload_n 0, 1) := by decide +kernel
theorem dX5_keep_75 : decode cX5_keep 75 = .ok (.getfield 26, 3) := by decide +kernel
theorem dX5_keep_78 : decode cX5_keep 78 = .ok (.sipush 256, 3) := by decide +kernel
theorem dX5_keep_81 : decode cX5_keep 81 = .ok (.aload_n 0, 1) := by decide +kernel
theorem dX5_keep_82 : decode cX5_keep 82 = .ok (.getfield 131, 3) := by decide +kernel
theorem dX5_keep_85 : decode cX5_keep 85 = .ok (.imul, 1) := by decide +kernel
theorem dX5_keep_86 : decode cX5_keep 86 = .ok (.iload_n 1, 1) := by decide +kernel
theorem dX5_keep_87 : decode cX5_keep 87 = .ok (.iadd, 1) := by decide +kernel
theorem dX5_keep_88 : decode cX5_keep 88 = .ok (.aload_n 0, 1) := by decide +kernel
theorem dX5_keep_89 : decode cX5_keep 89 = .ok (.getfield 13, 3) := by decide +kernel
theorem dX5_keep_92 : decode cX5_keep 92 = .ok (.iload_n 1, 1) := by decide +kernel
theorem dX5_keep_93 : decode cX5_keep 93 = .ok (.iaload, 1) := by decide +kernel
theorem dX5_keep_94 : decode cX5_keep 94 = .ok (.iastore, 1) := by decide +kernel
theorem dX5_keep_95 : decode cX5_keep 95 = .ok (.iinc 1 1, 3) := by decide +kernel
theorem dX5_keep_98 : decode cX5_keep 98 = .ok (.goto (-32), 3) := by decide +kernel
theorem dX5_keep_101 : decode cX5_keep 101 = .ok (.aload_n 0, 1) := by decide +kernel
theorem dX5_keep_102 : decode cX5_keep 102 = .ok (.dup, 1) := by decide +kernel
theorem dX5_keep_103 : decode cX5_keep 103 = .ok (.getfield 131, 3) := by decide +kernel
theorem dX5_keep_106 : decode cX5_keep 106 = .ok (.iconst 1, 1) := by decide +kernel
theorem dX5_keep_107 : decode cX5_keep 107 = .ok (.iadd, 1) := by decide +kernel
theorem dX5_keep_108 : decode cX5_keep 108 = .ok (.putfield 131, 3) := by decide +kernel
theorem dX5_keep_111 : decode cX5_keep 111 = .ok (.aload_n 0, 1) := by decide +kernel
theorem dX5_keep_112 : decode cX5_keep 112 = .ok (.getfield 131, 3) := by decide +kernel
theorem dX5_keep_115 : decode cX5_keep 115 = .ok (.iconst 1, 1) := by decide +kernel
theorem dX5_keep_116 : decode cX5_keep 116 = .ok (.isub, 1) := by decide +kernel
theorem dX5_keep_117 : decode cX5_keep 117 = .ok (.ireturn, 1) := by decide +kernel
def mBtw (kz : Nat) (KA : Nat → Int64) (p1 p2 : Int32) : Int64 × Int32 :=
  if (bI (mKept kz p1)) = 0 then
    (0, 1)
  else
    if (bI (mKept kz p2)) = 0 then
      (0, 1)
    else
      ((KA p2.toNatClampNeg) - (KA p1.toNatClampNeg), 0)
set_option maxHeartbeats 4000000 in
set_option maxRecDepth 100000 in
theorem m_between (l : Launch) (dC : Nat → ClassId) (dI : Nat → Nat → Nat) (st sz : Nat) (q : Nat) (th : Int32) (tx : Nat) (mz : Nat) (fl : Int32) (it : Bool) (al : Int64) (pt : Nat) (dg : Nat) (ot : Nat) (wr : Nat) (kz : Nat) (ka : Nat) (kd : Nat) (kp : Nat) (ma : Nat) (wg : Bool) (c4 : ClassId) (KA : Nat → Int64) (p1 : Int32) (p2 : Int32) (hkz : kz ≤ 40) : Met l yX5_between wsX5_between ({ frames := 1, cells := 0, slots := 0, locals := 21 }) (kc_Pc (dC, dI) kcl st sz [.ref q, .int p1, .int p2] [(q, .inr (5, [.int th, .ref tx, .int (nI mz), .int fl, .int (bI it), .long al, .ref pt, .int (nI dg), .ref ot, .int (nI wr), .int (nI kz), .ref ka, .ref kd, .ref kp, .int (nI ma), .int (bI wg)])), (ka, .inl (c4, 40, .inr (.inl KA)))] [(c4, .long)]) (kc_Ql (dC, dI) kcl (mBtw kz KA p1 p2).1 [(q, .inr (5, [.int (mBtw kz KA p1 p2).2, .ref tx, .int (nI mz), .int fl, .int (bI it), .long al, .ref pt, .int (nI dg), .ref ot, .int (nI wr), .int (nI kz), .ref ka, .ref kd, .ref kp, .int (nI ma), .int (bI wg)])), (ka, .inl (c4, 40, .inr (.inl KA)))] (va_A [(q, .inr (5, [.int th, .ref tx, .int (nI mz), .int fl, .int (bI it), .long al, .ref pt, .int (nI dg), .ref ot, .int (nI wr), .int (nI kz), .ref ka, .ref kd, .ref kp, .int (nI ma), .int (bI wg)])), (ka, .inl (c4, 40, .inr (.inl KA)))] sz)) 0 0 (va_A [(q, .inr (5, [.int th, .ref tx, .int (nI mz), .int fl, .int (bI it), .long al, .ref pt, .int (nI dg), .ref ot, .int (nI wr), .int (nI kz), .ref ka, .ref kd, .ref kp, .int (nI ma), .int (bI wg)])), (ka, .inl (c4, 40, .inr (.inl KA)))] sz) := by
  refine kc_ofW (Qc := fun A => (kc_Ql (dC, dI) kcl (mBtw kz KA p1 p2).1 [(q, .inr (5, [.int (mBtw kz KA p1 p2).2, .ref tx, .int (nI mz), .int fl, .int (bI it), .long al, .ref pt, .int (nI dg), .ref ot, .int (nI wr), .int (nI kz), .ref ka, .ref kd, .ref kp, .int (nI ma), .int (bI wg)])), (ka, .inl (c4, 40, .inr (.inl KA)))] A)) (cc := cX5_between) (maxL := 3) (ret := (some .long)) (by decide) rfl (Nat.le_of_ble_eq_true rfl) ?_
  intro p e s m below meth c A ls Cx hA hG hK hP hD hS hl
  obtain ⟨hx, hb, hr, hml, hown, hts, hlocks, hnm⟩ := id Cx
  have hl : lv_has ls 3 [(0, .ref q), (1, .int p1), (2, .int p2)] := hl
  refine lv_aload_n hx hb dX5_between_0 rfl (lv_at hl 0 rfl) ?_
  refine lv_aload_n hx hb dX5_between_1 rfl (lv_at hl 0 rfl) ?_
  refine lv_iload_n hx hb dX5_between_2 rfl (lv_at hl 1 rfl) ?_
  have hPc := hP.sub (ws' := [(q, .inr (5, [.int th, .ref tx, .int (nI mz), .int fl, .int (bI it), .long al, .ref pt, .int (nI dg), .ref ot, .int (nI wr), .int (nI kz), .ref ka, .ref kd, .ref kp, .int (nI ma), .int (bI wg)]))]) [0] rfl
  have hDc := hD.sub (ws' := [(q, .inr (5, [.int th, .ref tx, .int (nI mz), .int fl, .int (bI it), .long al, .ref pt, .int (nI dg), .ref ot, .int (nI wr), .int (nI kz), .ref ka, .ref kd, .ref kp, .int (nI ma), .int (bI wg)]))]) [0] (by decide) rfl
  have hKc := hK.sub (tys' := []) [] rfl
  have hFc := va_free (wc := [(q, .inr (5, [.int th, .ref tx, .int (nI mz), .int fl, .int (bI it), .long al, .ref pt, .int (nI dg), .ref ot, .int (nI wr), .int (nI kz), .ref ka, .ref kd, .ref kp, .int (nI ma), .int (bI wg)]))]) hD hS hA [0] rfl
  refine kc_callSi (val := bI (mKept kz p1)) (va_runV (As := [.int p1]) (rest := [.ref q]) ⟨hx, hb, hml, hown, hts⟩ (m_isKept l dC dI st s.heap.size q th tx mz fl it al pt dg ot wr kz ka kd kp ma wg p1 ) (cwV 1 hts (kwV kwm_292 kwm_293 kwm_294 kwm_203 kwm_291) rfl rfl rfl (by decide +kernel) ⟨Nat.le_of_ble_eq_true rfl, Nat.le_of_ble_eq_true rfl⟩) ⟨kc_blind, va_recv hKc hPc (ci := 5) (q0 := 0) rfl rfl, kc_pre hG hS hFc hKc hPc hDc⟩ rfl rfl hl.1 rfl (lv_room (Nat.le_of_ble_eq_true rfl)) dX5_between_3 ⟨Nat.le_of_ble_eq_true rfl, Nat.le_of_ble_eq_true rfl⟩) ?_
  refine lv_if_eq (tgt := 21) hx hb dX5_between_6 (by decide) (fun c_6 => ?_) (fun c_6 => ?_)
  · refine lv_iconst (v := 1) hx hb dX5_between_21 (by decide) ?_
    refine va_put (D := (dC, dI)) (ci := 5) (v := .int 1) (ty := .int) (C := RX5) (T := TX5) (N := 16) hx hb hts kin_5 tyX5 tyX5_ok nmX5 hown hK hP hD hS 0 rfl rfl 0 (by decide) (hts _ (kcm kwm_204)) (fun _ h9 => h9) rfl (by decide +kernel) rfl rfl (Nat.le_of_ble_eq_true rfl) dX5_between_22 (fun H locs hP hD hS => ?_)
    have hP : va_P (dC, dI) kcl [(q, .inr (5, [.int 1, .ref tx, .int (nI mz), .int fl, .int (bI it), .long al, .ref pt, .int (nI dg), .ref ot, .int (nI wr), .int (nI kz), .ref ka, .ref kd, .ref kp, .int (nI ma), .int (bI wg)])), (ka, .inl (c4, 40, .inr (.inl KA)))] H := hP
    have hD : va_D A [(q, .inr (5, [.int 1, .ref tx, .int (nI mz), .int fl, .int (bI it), .long al, .ref pt, .int (nI dg), .ref ot, .int (nI wr), .int (nI kz), .ref ka, .ref kd, .ref kp, .int (nI ma), .int (bI wg)])), (ka, .inl (c4, 40, .inr (.inl KA)))] := hD
    refine lv_aload_n hx hb dX5_between_25 rfl (lv_at hl 0 rfl) ?_
    refine va_get (D := (dC, dI)) (ci := 5) (v := .int 1) (C := RX5) (T := TX5) (N := 16) hx hb hts kin_5 hown hK hP 0 rfl rfl 0 (by decide) (hts _ (kcm kwm_204)) (fun _ h9 => h9) rfl dX5_between_26 ?_
    refine lv_if_le (tgt := 36) hx hb dX5_between_29 (by decide) (fun c_29 => ?_) (fun c_29 => ?_)
    · exact absurd c_29 (by decide)
    · refine lv_lconst (v := 0) hx hb dX5_between_32 (by decide) ?_
      refine lv_goto (tgt := 49) hx hb dX5_between_33 (by decide) ?_
      have hF9 : mBtw kz KA p1 p2 = (0, 1) := by
        first | (simp only [mBtw, if_pos c_6]; done) | rfl
      have hP9 : va_P (dC, dI) kcl [(q, .inr (5, [.int (mBtw kz KA p1 p2).2, .ref tx, .int (nI mz), .int fl, .int (bI it), .long al, .ref pt, .int (nI dg), .ref ot, .int (nI wr), .int (nI kz), .ref ka, .ref kd, .ref kp, .int (nI ma), .int (bI wg)])), (ka, .inl (c4, 40, .inr (.inl KA)))] H := by
        try rw [hF9]
        exact hP.sub [0, 1] rfl
      have hD9 : va_D A [(q, .inr (5, [.int (mBtw kz KA p1 p2).2, .ref tx, .int (nI mz), .int fl, .int (bI it), .long al, .ref pt, .int (nI dg), .ref ot, .int (nI wr), .int (nI kz), .ref ka, .ref kd, .ref kp, .int (nI ma), .int (bI wg)])), (ka, .inl (c4, 40, .inr (.inl KA)))] := by
        try rw [hF9]
        exact hD.sub [0, 1] (by decide) rfl
      have hv9 : (0 : Int64) = (mBtw kz KA p1 p2).1 := by
        try rw [hF9]
        try rfl
      exact kc_lret hx hb hr hlocks hv9 hP9 hD9 hS dX5_between_49
  · refine lv_aload_n hx hb dX5_between_9 rfl (lv_at hl 0 rfl) ?_
    refine lv_iload_n hx hb dX5_between_10 rfl (lv_at hl 2 rfl) ?_
    have hPc := hP.sub (ws' := [(q, .inr (5, [.int th, .ref tx, .int (nI mz), .int fl, .int (bI it), .long al, .ref pt, .int (nI dg), .ref ot, .int (nI wr), .int (nI kz), .ref ka, .ref kd, .ref kp, .int (nI ma), .int (bI wg)]))]) [0] rfl
    have hDc := hD.sub (ws' := [(q, .inr (5, [.int th, .ref tx, .int (nI mz), .int fl, .int (bI it), .long al, .ref pt, .int (nI dg), .ref ot, .int (nI wr), .int (nI kz), .ref ka, .ref kd, .ref kp, .int (nI ma), .int (bI wg)]))]) [0] (by decide) rfl
    have hKc := hK.sub (tys' := []) [] rfl
    have hFc := va_free (wc := [(q, .inr (5, [.int th, .ref tx, .int (nI mz), .int fl, .int (bI it), .long al, .ref pt, .int (nI dg), .ref ot, .int (nI wr), .int (nI kz), .ref ka, .ref kd, .ref kp, .int (nI ma), .int (bI wg)]))]) hD hS hA [0] rfl
    refine kc_callSi (val := bI (mKept kz p2)) (va_runV (As := [.int p2]) (rest := [.ref q]) ⟨hx, hb, hml, hown, hts⟩ (m_isKept l dC dI st s.heap.size q th tx mz fl it al pt dg ot wr kz ka kd kp ma wg p2 ) (cwV 1 hts (kwV kwm_292 kwm_293 kwm_294 kwm_203 kwm_291) rfl rfl rfl (by decide +kernel) ⟨Nat.le_of_ble_eq_true rfl, Nat.le_of_ble_eq_true rfl⟩) ⟨kc_blind, va_recv hKc hPc (ci := 5) (q0 := 0) rfl rfl, kc_pre hG hS hFc hKc hPc hDc⟩ rfl rfl hl.1 rfl (lv_room (Nat.le_of_ble_eq_true rfl)) dX5_between_11 ⟨Nat.le_of_ble_eq_true rfl, Nat.le_of_ble_eq_true rfl⟩) ?_
    refine lv_if_eq (tgt := 21) hx hb dX5_between_14 (by decide) (fun c_14 => ?_) (fun c_14 => ?_)
    · refine lv_iconst (v := 1) hx hb dX5_between_21 (by decide) ?_
      refine va_put (D := (dC, dI)) (ci := 5) (v := .int 1) (ty := .int) (C := RX5) (T := TX5) (N := 16) hx hb hts kin_5 tyX5 tyX5_ok nmX5 hown hK hP hD hS 0 rfl rfl 0 (by decide) (hts _ (kcm kwm_204)) (fun _ h9 => h9) rfl (by decide +kernel) rfl rfl (Nat.le_of_ble_eq_true rfl) dX5_between_22 (fun H locs hP hD hS => ?_)
      have hP : va_P (dC, dI) kcl [(q, .inr (5, [.int 1, .ref tx, .int (nI mz), .int fl, .int (bI it), .long al, .ref pt, .int (nI dg), .ref ot, .int (nI wr), .int (nI kz), .ref ka, .ref kd, .ref kp, .int (nI ma), .int (bI wg)])), (ka, .inl (c4, 40, .inr (.inl KA)))] H := hP
      have hD : va_D A [(q, .inr (5, [.int 1, .ref tx, .int (nI mz), .int fl, .int (bI it), .long al, .ref pt, .int (nI dg), .ref ot, .int (nI wr), .int (nI kz), .ref ka, .ref kd, .ref kp, .int (nI ma), .int (bI wg)])), (ka, .inl (c4, 40, .inr (.inl KA)))] := hD
      refine lv_aload_n hx hb dX5_between_25 rfl (lv_at hl 0 rfl) ?_
      refine va_get (D := (dC, dI)) (ci := 5) (v := .int 1) (C := RX5) (T := TX5) (N := 16) hx hb hts kin_5 hown hK hP 0 rfl rfl 0 (by decide) (hts _ (kcm kwm_204)) (fun _ h9 => h9) rfl dX5_between_26 ?_
      refine lv_if_le (tgt := 36) hx hb dX5_between_29 (by decide) (fun c_29 => ?_) (fun c_29 => ?_)
      · exact absurd c_29 (by decide)
      · refine lv_lconst (v := 0) hx hb dX5_between_32 (by decide) ?_
        refine lv_goto (tgt := 49) hx hb dX5_between_33 (by decide) ?_
        have hF9 : mBtw kz KA p1 p2 = (0, 1) := by
          first | (simp only [mBtw, if_neg c_6, if_pos c_14]; done) | rfl
        have hP9 : va_P (dC, dI) kcl [(q, .inr (5, [.int (mBtw kz KA p1 p2).2, .ref tx, .int (nI mz), .int fl, .int (bI it), .long al, .ref pt, .int (nI dg), .ref ot, .int (nI wr), .int (nI kz), .ref ka, .ref kd, .ref kp, .int (nI ma), .int (bI wg)])), (ka, .inl (c4, 40, .inr (.inl KA)))] H := by
          try rw [hF9]
          exact hP.sub [0, 1] rfl
        have hD9 : va_D A [(q, .inr (5, [.int (mBtw kz KA p1 p2).2, .ref tx, .int (nI mz), .int fl, .int (bI it), .long al, .ref pt, .int (nI dg), .ref ot, .int (nI wr), .int (nI kz), .ref ka, .ref kd, .ref kp, .int (nI ma), .int (bI wg)])), (ka, .inl (c4, 40, .inr (.inl KA)))] := by
          try rw [hF9]
          exact hD.sub [0, 1] (by decide) rfl
        have hv9 : (0 : Int64) = (mBtw kz KA p1 p2).1 := by
          try rw [hF9]
          try rfl
        exact kc_lret hx hb hr hlocks hv9 hP9 hD9 hS dX5_between_49
    · refine lv_iconst (v := 0) hx hb dX5_between_17 (by decide) ?_
      refine lv_goto (tgt := 22) hx hb dX5_between_18 (by decide) ?_
      refine va_put (D := (dC, dI)) (ci := 5) (v := .int 0) (ty := .int) (C := RX5) (T := TX5) (N := 16) hx hb hts kin_5 tyX5 tyX5_ok nmX5 hown hK hP hD hS 0 rfl rfl 0 (by decide) (hts _ (kcm kwm_204)) (fun _ h9 => h9) rfl (by decide +kernel) rfl rfl (Nat.le_of_ble_eq_true rfl) dX5_between_22 (fun H locs hP hD hS => ?_)
      have hP : va_P (dC, dI) kcl [(q, .inr (5, [.int 0, .ref tx, .int (nI mz), .int fl, .int (bI it), .long al, .ref pt, .int (nI dg), .ref ot, .int (nI wr), .int (nI kz), .ref ka, .ref kd, .ref kp, .int (nI ma), .int (bI wg)])), (ka, .inl (c4, 40, .inr (.inl KA)))] H := hP
      have hD : va_D A [(q, .inr (5, [.int 0, .ref tx, .int (nI mz), .int fl, .int (bI it), .long al, .ref pt, .int (nI dg), .ref ot, .int (nI wr), .int (nI kz), .ref ka, .ref kd, .ref kp, .int (nI ma), .int (bI wg)])), (ka, .inl (c4, 40, .inr (.inl KA)))] := hD
      refine lv_aload_n hx hb dX5_between_25 rfl (lv_at hl 0 rfl) ?_
      refine va_get (D := (dC, dI)) (ci := 5) (v := .int 0) (C := RX5) (T := TX5) (N := 16) hx hb hts kin_5 hown hK hP 0 rfl rfl 0 (by decide) (hts _ (kcm kwm_204)) (fun _ h9 => h9) rfl dX5_between_26 ?_
      refine lv_if_le (tgt := 36) hx hb dX5_between_29 (by decide) (fun c_29 => ?_) (fun c_29 => ?_)
      · refine lv_aload_n hx hb dX5_between_36 rfl (lv_at hl 0 rfl) ?_
        refine va_get (D := (dC, dI)) (ci := 5) (v := .ref ka) (C := RX5) (T := TX5) (N := 16) hx hb hts kin_5 hown hK hP 0 rfl rfl 11 (by decide) (hts _ (kcm kwm_295)) (fun _ h9 => h9) rfl dX5_between_37 ?_
        refine lv_iload_n hx hb dX5_between_40 rfl (lv_at hl 2 rfl) ?_
        refine va_lald hx hb hK hP 1 0 rfl rfl (mKept_in c_14 hkz) dX5_between_41 ?_
        refine lv_aload_n hx hb dX5_between_42 rfl (lv_at hl 0 rfl) ?_
        refine va_get (D := (dC, dI)) (ci := 5) (v := .ref ka) (C := RX5) (T := TX5) (N := 16) hx hb hts kin_5 hown hK hP 0 rfl rfl 11 (by decide) (hts _ (kcm kwm_295)) (fun _ h9 => h9) rfl dX5_between_43 ?_
        refine lv_iload_n hx hb dX5_between_46 rfl (lv_at hl 1 rfl) ?_
        refine va_lald hx hb hK hP 1 0 rfl rfl (mKept_in c_6 hkz) dX5_between_47 ?_
        refine lv_lsub hx hb dX5_between_48 ?_
        have hF9 : mBtw kz KA p1 p2 = ((KA p2.toNatClampNeg) - (KA p1.toNatClampNeg), 0) := by
          first | (simp only [mBtw, if_neg c_6, if_neg c_14]; done) | rfl
        have hP9 : va_P (dC, dI) kcl [(q, .inr (5, [.int (mBtw kz KA p1 p2).2, .ref tx, .int (nI mz), .int fl, .int (bI it), .long al, .ref pt, .int (nI dg), .ref ot, .int (nI wr), .int (nI kz), .ref ka, .ref kd, .ref kp, .int (nI ma), .int (bI wg)])), (ka, .inl (c4, 40, .inr (.inl KA)))] H := by
          try rw [hF9]
          exact hP.sub [0, 1] rfl
        have hD9 : va_D A [(q, .inr (5, [.int (mBtw kz KA p1 p2).2, .ref tx, .int (nI mz), .int fl, .int (bI it), .long al, .ref pt, .int (nI dg), .ref ot, .int (nI wr), .int (nI kz), .ref ka, .ref kd, .ref kp, .int (nI ma), .int (bI wg)])), (ka, .inl (c4, 40, .inr (.inl KA)))] := by
          try rw [hF9]
          exact hD.sub [0, 1] (by decide) rfl
        have hv9 : (KA p2.toNatClampNeg) - (KA p1.toNatClampNeg) = (mBtw kz KA p1 p2).1 := by
          try rw [hF9]
          try rfl
        exact kc_lret hx hb hr hlocks hv9 hP9 hD9 hS dX5_between_49
      · exact absurd (by decide) c_29
set_option maxHeartbeats 4000000 in
set_option maxRecDepth 100000 in
theorem lp_agm {p : Program} {l : Launch} {e : Env} {s : State} {m : MethodId} {below : List Frame} {meth : Method} {c : Code} (dC : Nat → ClassId) (dI : Nat → Nat → Nat) (st : Nat) {A : Nat → Prop} (q : Nat) (tx : Nat) (mz : Nat) (fl : Int32) (it : Bool) (al : Int64) (pt : Nat) (dg : Nat) (ot : Nat) (wr : Nat) (kz : Nat) (ka : Nat) (kd : Nat) (kp : Nat) (ma : Nat) (wg : Bool) (th : Int32) (c1 : ClassId) (c3 : ClassId) (U : Nat → Int32) (T : Nat → Int32) (hw : wr ≤ 256) (Cx : kc_Cx yX5_again cX5_again (some .int) 2 wsX5_again p s m ([.ref q] : List Value).toArray meth c) (hA : ∀ q, s.heap.size ≤ q → A q) (hG : kg st A s) (hK : va_K (dC, dI) kcl [(c1, .int), (c3, .int)] s) :
    ∀ (N : Nat) (i : Nat) (X : Nat → Int32) (hi : i ≤ wr) (hN : wr ≤ i + N) (hT : mcL U wr N i X = T) (H : Heap) (locs : List Loc) (ls : Array Slot), va_P (dC, dI) kcl [(q, .inr (5, [.int th, .ref tx, .int (nI mz), .int fl, .int (bI it), .long al, .ref pt, .int (nI dg), .ref ot, .int (nI wr), .int (nI kz), .ref ka, .ref kd, .ref kp, .int (nI ma), .int (bI wg)])), (tx, .inl (c1, 256, .inl X)), (ot, .inl (c3, 256, .inl U))] H → va_D A [(q, .inr (5, [.int th, .ref tx, .int (nI mz), .int fl, .int (bI it), .long al, .ref pt, .int (nI dg), .ref ot, .int (nI wr), .int (nI kz), .ref ka, .ref kd, .ref kp, .int (nI ma), .int (bI wg)])), (tx, .inl (c1, 256, .inl X)), (ot, .inl (c3, 256, .inl U))] → va_S A s.heap H locs → lv_has ls 2 [(0, .ref q), (1, .int (nI i))] → W p l e ({ frames := 0, cells := 0, slots := 0, locals := 0 }) s m ([.ref q] : List Value).toArray below meth c H locs 0 0 (MQ below (kc_Qi (dC, dI) kcl (nI wr) [(q, .inr (5, [.int th, .ref tx, .int (nI wr), .int fl, .int (bI it), .long al, .ref pt, .int (nI dg), .ref ot, .int (nI wr), .int (nI kz), .ref ka, .ref kd, .ref kp, .int (nI ma), .int (bI wg)])), (tx, .inl (c1, 256, .inl T)), (ot, .inl (c3, 256, .inl U))] A) ([.ref q] : List Value).toArray s 0 0 A) (F0 m 27 ls []) := by
  obtain ⟨hx, hb, hr, hml, hown, hts, hlocks, hnm⟩ := Cx
  intro N
  induction N with
  | zero =>
    intro i X hi hN hT H locs ls hP hD hS hl
    refine lv_iload_n hx hb dX5_again_27 rfl (lv_at hl 1 rfl) ?_
    refine lv_aload_n hx hb dX5_again_28 rfl (lv_at hl 0 rfl) ?_
    refine va_get (D := (dC, dI)) (ci := 5) (v := .int (nI wr)) (C := RX5) (T := TX5) (N := 16) hx hb hts kin_5 hown hK hP 0 rfl rfl 9 (by decide) (hts _ (kcm kwm_271)) (fun _ h9 => h9) rfl dX5_again_29 ?_
    refine lv_icmp_ge (tgt := 53) hx hb dX5_again_32 (by decide) (fun c_32 => ?_) (fun c_32 => ?_)
    · have hT : X = T := hT
      refine lv_aload_n hx hb dX5_again_53 rfl (lv_at hl 0 rfl) ?_
      refine lv_aload_n hx hb dX5_again_54 rfl (lv_at hl 0 rfl) ?_
      refine va_get (D := (dC, dI)) (ci := 5) (v := .int (nI wr)) (C := RX5) (T := TX5) (N := 16) hx hb hts kin_5 hown hK hP 0 rfl rfl 9 (by decide) (hts _ (kcm kwm_271)) (fun _ h9 => h9) rfl dX5_again_55 ?_
      refine va_put (D := (dC, dI)) (ci := 5) (v := .int (nI wr)) (ty := .int) (C := RX5) (T := TX5) (N := 16) hx hb hts kin_5 tyX5 tyX5_ok nmX5 hown hK hP hD hS 0 rfl rfl 2 (by decide) (hts _ (kcm kwm_206)) (fun _ h9 => h9) rfl (by decide +kernel) rfl rfl (Nat.le_of_ble_eq_true rfl) dX5_again_58 (fun H locs hP hD hS => ?_)
      have hP : va_P (dC, dI) kcl [(q, .inr (5, [.int th, .ref tx, .int (nI wr), .int fl, .int (bI it), .long al, .ref pt, .int (nI dg), .ref ot, .int (nI wr), .int (nI kz), .ref ka, .ref kd, .ref kp, .int (nI ma), .int (bI wg)])), (tx, .inl (c1, 256, .inl X)), (ot, .inl (c3, 256, .inl U))] H := hP
      have hD : va_D A [(q, .inr (5, [.int th, .ref tx, .int (nI wr), .int fl, .int (bI it), .long al, .ref pt, .int (nI dg), .ref ot, .int (nI wr), .int (nI kz), .ref ka, .ref kd, .ref kp, .int (nI ma), .int (bI wg)])), (tx, .inl (c1, 256, .inl X)), (ot, .inl (c3, 256, .inl U))] := hD
      refine lv_aload_n hx hb dX5_again_61 rfl (lv_at hl 0 rfl) ?_
      refine va_get (D := (dC, dI)) (ci := 5) (v := .int (nI wr)) (C := RX5) (T := TX5) (N := 16) hx hb hts kin_5 hown hK hP 0 rfl rfl 2 (by decide) (hts _ (kcm kwm_206)) (fun _ h9 => h9) rfl dX5_again_62 ?_
      have hP9 : va_P (dC, dI) kcl [(q, .inr (5, [.int th, .ref tx, .int (nI wr), .int fl, .int (bI it), .long al, .ref pt, .int (nI dg), .ref ot, .int (nI wr), .int (nI kz), .ref ka, .ref kd, .ref kp, .int (nI ma), .int (bI wg)])), (tx, .inl (c1, 256, .inl T)), (ot, .inl (c3, 256, .inl U))] H := by
        try rw [← hT]
        exact hP.sub [0, 1, 2] rfl
      have hD9 : va_D A [(q, .inr (5, [.int th, .ref tx, .int (nI wr), .int fl, .int (bI it), .long al, .ref pt, .int (nI dg), .ref ot, .int (nI wr), .int (nI kz), .ref ka, .ref kd, .ref kp, .int (nI ma), .int (bI wg)])), (tx, .inl (c1, 256, .inl T)), (ot, .inl (c3, 256, .inl U))] := by
        try rw [← hT]
        exact hD.sub [0, 1, 2] (by decide) rfl
      have hv9 : nI wr = nI wr := by
        try rw [← hT]
        try rfl
      exact kc_iret hx hb hr hlocks hv9 hP9 hD9 hS dX5_again_65
    · exact absurd (nI_le (show wr ≤ i by omega) (by omega)) c_32
  | succ N ih =>
    intro i X hi hN hT H locs ls hP hD hS hl
    refine lv_iload_n hx hb dX5_again_27 rfl (lv_at hl 1 rfl) ?_
    refine lv_aload_n hx hb dX5_again_28 rfl (lv_at hl 0 rfl) ?_
    refine va_get (D := (dC, dI)) (ci := 5) (v := .int (nI wr)) (C := RX5) (T := TX5) (N := 16) hx hb hts kin_5 hown hK hP 0 rfl rfl 9 (by decide) (hts _ (kcm kwm_271)) (fun _ h9 => h9) rfl dX5_again_29 ?_
    refine lv_icmp_ge (tgt := 53) hx hb dX5_again_32 (by decide) (fun c_32 => ?_) (fun c_32 => ?_)
    · have hT : X = T := by rw [← hT]; exact (if_pos (show wr ≤ i by have := kb_ge c_32 (by omega); omega)).symm
      refine lv_aload_n hx hb dX5_again_53 rfl (lv_at hl 0 rfl) ?_
      refine lv_aload_n hx hb dX5_again_54 rfl (lv_at hl 0 rfl) ?_
      refine va_get (D := (dC, dI)) (ci := 5) (v := .int (nI wr)) (C := RX5) (T := TX5) (N := 16) hx hb hts kin_5 hown hK hP 0 rfl rfl 9 (by decide) (hts _ (kcm kwm_271)) (fun _ h9 => h9) rfl dX5_again_55 ?_
      refine va_put (D := (dC, dI)) (ci := 5) (v := .int (nI wr)) (ty := .int) (C := RX5) (T := TX5) (N := 16) hx hb hts kin_5 tyX5 tyX5_ok nmX5 hown hK hP hD hS 0 rfl rfl 2 (by decide) (hts _ (kcm kwm_206)) (fun _ h9 => h9) rfl (by decide +kernel) rfl rfl (Nat.le_of_ble_eq_true rfl) dX5_again_58 (fun H locs hP hD hS => ?_)
      have hP : va_P (dC, dI) kcl [(q, .inr (5, [.int th, .ref tx, .int (nI wr), .int fl, .int (bI it), .long al, .ref pt, .int (nI dg), .ref ot, .int (nI wr), .int (nI kz), .ref ka, .ref kd, .ref kp, .int (nI ma), .int (bI wg)])), (tx, .inl (c1, 256, .inl X)), (ot, .inl (c3, 256, .inl U))] H := hP
      have hD : va_D A [(q, .inr (5, [.int th, .ref tx, .int (nI wr), .int fl, .int (bI it), .long al, .ref pt, .int (nI dg), .ref ot, .int (nI wr), .int (nI kz), .ref ka, .ref kd, .ref kp, .int (nI ma), .int (bI wg)])), (tx, .inl (c1, 256, .inl X)), (ot, .inl (c3, 256, .inl U))] := hD
      refine lv_aload_n hx hb dX5_again_61 rfl (lv_at hl 0 rfl) ?_
      refine va_get (D := (dC, dI)) (ci := 5) (v := .int (nI wr)) (C := RX5) (T := TX5) (N := 16) hx hb hts kin_5 hown hK hP 0 rfl rfl 2 (by decide) (hts _ (kcm kwm_206)) (fun _ h9 => h9) rfl dX5_again_62 ?_
      have hP9 : va_P (dC, dI) kcl [(q, .inr (5, [.int th, .ref tx, .int (nI wr), .int fl, .int (bI it), .long al, .ref pt, .int (nI dg), .ref ot, .int (nI wr), .int (nI kz), .ref ka, .ref kd, .ref kp, .int (nI ma), .int (bI wg)])), (tx, .inl (c1, 256, .inl T)), (ot, .inl (c3, 256, .inl U))] H := by
        try rw [← hT]
        exact hP.sub [0, 1, 2] rfl
      have hD9 : va_D A [(q, .inr (5, [.int th, .ref tx, .int (nI wr), .int fl, .int (bI it), .long al, .ref pt, .int (nI dg), .ref ot, .int (nI wr), .int (nI kz), .ref ka, .ref kd, .ref kp, .int (nI ma), .int (bI wg)])), (tx, .inl (c1, 256, .inl T)), (ot, .inl (c3, 256, .inl U))] := by
        try rw [← hT]
        exact hD.sub [0, 1, 2] (by decide) rfl
      have hv9 : nI wr = nI wr := by
        try rw [← hT]
        try rfl
      exact kc_iret hx hb hr hlocks hv9 hP9 hD9 hS dX5_again_65
    · have hlt : i < wr := kb_lt c_32 (by omega)
      have hlt9 : ¬ wr ≤ i := by omega
      refine lv_aload_n hx hb dX5_again_35 rfl (lv_at hl 0 rfl) ?_
      refine va_get (D := (dC, dI)) (ci := 5) (v := .ref tx) (C := RX5) (T := TX5) (N := 16) hx hb hts kin_5 hown hK hP 0 rfl rfl 1 (by decide) (hts _ (kcm kwm_205)) (fun _ h9 => h9) rfl dX5_again_36 ?_
      refine lv_iload_n hx hb dX5_again_39 rfl (lv_at hl 1 rfl) ?_
      refine lv_aload_n hx hb dX5_again_40 rfl (lv_at hl 0 rfl) ?_
      refine va_get (D := (dC, dI)) (ci := 5) (v := .ref ot) (C := RX5) (T := TX5) (N := 16) hx hb hts kin_5 hown hK hP 0 rfl rfl 8 (by decide) (hts _ (kcm kwm_270)) (fun _ h9 => h9) rfl dX5_again_41 ?_
      refine lv_iload_n hx hb dX5_again_44 rfl (lv_at hl 1 rfl) ?_
      refine va_iald hx hb hK hP 2 1 rfl rfl (vp_in_nI (by omega) (by decide)) dX5_again_45 ?_
      rw [show (nI i).toNatClampNeg = i from nI_clamp (by omega)]
      refine va_iast hx hb hK hP hD hS 1 0 rfl rfl (vp_in_nI (by omega) (by decide)) dX5_again_46 (fun H locs hP hD hS => ?_)
      rw [show (nI i).toNatClampNeg = i from nI_clamp (by omega)] at hP hD
      have hP : va_P (dC, dI) kcl [(q, .inr (5, [.int th, .ref tx, .int (nI mz), .int fl, .int (bI it), .long al, .ref pt, .int (nI dg), .ref ot, .int (nI wr), .int (nI kz), .ref ka, .ref kd, .ref kp, .int (nI ma), .int (bI wg)])), (tx, .inl (c1, 256, .inl (upd X i (U i)))), (ot, .inl (c3, 256, .inl U))] H := hP
      have hD : va_D A [(q, .inr (5, [.int th, .ref tx, .int (nI mz), .int fl, .int (bI it), .long al, .ref pt, .int (nI dg), .ref ot, .int (nI wr), .int (nI kz), .ref ka, .ref kd, .ref kp, .int (nI ma), .int (bI wg)])), (tx, .inl (c1, 256, .inl (upd X i (U i)))), (ot, .inl (c3, 256, .inl U))] := hD
      refine lv_iinc (v := (nI i) + 1) (lv' := [(1, .int ((nI i) + 1)), (0, .ref q)]) hx hb dX5_again_47 hl (k := 1) rfl (congrArg (fun z => (nI i) + z) (show Int32.ofInt (1) = (1 : Int32) by decide)) (by decide) rfl (fun ls hl => ?_)
      refine lv_goto (tgt := 27) hx hb dX5_again_50 (by decide) ?_
      rw [nI_1] at hl
      exact ih (i + 1) _ (by omega) (by omega) (by rw [← hT]; exact (if_neg hlt9).symm) H locs ls hP hD hS (lv_sub hl [1, 0] rfl)
def mAgain (it : Bool) (U : Nat → Int32) (wr : Nat) (X : Nat → Int32) (mz : Nat) : Int32 × Int32 × (Nat → Int32) × Nat :=
  if (bI it) = 0 then
    (0, 1, X, mz)
  else
    (nI wr, 0, (mcL U wr wr 0 X), wr)
set_option maxHeartbeats 4000000 in
set_option maxRecDepth 100000 in
theorem m_again (l : Launch) (dC : Nat → ClassId) (dI : Nat → Nat → Nat) (st sz : Nat) (q : Nat) (th : Int32) (tx : Nat) (mz : Nat) (fl : Int32) (it : Bool) (al : Int64) (pt : Nat) (dg : Nat) (ot : Nat) (wr : Nat) (kz : Nat) (ka : Nat) (kd : Nat) (kp : Nat) (ma : Nat) (wg : Bool) (c1 : ClassId) (X : Nat → Int32) (c3 : ClassId) (U : Nat → Int32) (hw : wr ≤ 256) : Met l yX5_again wsX5_again ({ frames := 0, cells := 0, slots := 0, locals := 0 }) (kc_Pc (dC, dI) kcl st sz [.ref q] [(q, .inr (5, [.int th, .ref tx, .int (nI mz), .int fl, .int (bI it), .long al, .ref pt, .int (nI dg), .ref ot, .int (nI wr), .int (nI kz), .ref ka, .ref kd, .ref kp, .int (nI ma), .int (bI wg)])), (tx, .inl (c1, 256, .inl X)), (ot, .inl (c3, 256, .inl U))] [(c1, .int), (c3, .int)]) (kc_Qi (dC, dI) kcl (mAgain it U wr X mz).1 [(q, .inr (5, [.int (mAgain it U wr X mz).2.1, .ref tx, .int (nI (mAgain it U wr X mz).2.2.2), .int fl, .int (bI it), .long al, .ref pt, .int (nI dg), .ref ot, .int (nI wr), .int (nI kz), .ref ka, .ref kd, .ref kp, .int (nI ma), .int (bI wg)])), (tx, .inl (c1, 256, .inl (mAgain it U wr X mz).2.2.1)), (ot, .inl (c3, 256, .inl U))] (va_A [(q, .inr (5, [.int th, .ref tx, .int (nI mz), .int fl, .int (bI it), .long al, .ref pt, .int (nI dg), .ref ot, .int (nI wr), .int (nI kz), .ref ka, .ref kd, .ref kp, .int (nI ma), .int (bI wg)])), (tx, .inl (c1, 256, .inl X)), (ot, .inl (c3, 256, .inl U))] sz)) 0 0 (va_A [(q, .inr (5, [.int th, .ref tx, .int (nI mz), .int fl, .int (bI it), .long al, .ref pt, .int (nI dg), .ref ot, .int (nI wr), .int (nI kz), .ref ka, .ref kd, .ref kp, .int (nI ma), .int (bI wg)])), (tx, .inl (c1, 256, .inl X)), (ot, .inl (c3, 256, .inl U))] sz) := by
  refine kc_ofW (Qc := fun A => (kc_Qi (dC, dI) kcl (mAgain it U wr X mz).1 [(q, .inr (5, [.int (mAgain it U wr X mz).2.1, .ref tx, .int (nI (mAgain it U wr X mz).2.2.2), .int fl, .int (bI it), .long al, .ref pt, .int (nI dg), .ref ot, .int (nI wr), .int (nI kz), .ref ka, .ref kd, .ref kp, .int (nI ma), .int (bI wg)])), (tx, .inl (c1, 256, .inl (mAgain it U wr X mz).2.2.1)), (ot, .inl (c3, 256, .inl U))] A)) (cc := cX5_again) (maxL := 2) (ret := (some .int)) (by decide) rfl (Nat.le_of_ble_eq_true rfl) ?_
  intro p e s m below meth c A ls Cx hA hG hK hP hD hS hl
  obtain ⟨hx, hb, hr, hml, hown, hts, hlocks, hnm⟩ := id Cx
  have hl : lv_has ls 2 [(0, .ref q)] := hl
  refine lv_aload_n hx hb dX5_again_0 rfl (lv_at hl 0 rfl) ?_
  refine lv_aload_n hx hb dX5_again_1 rfl (lv_at hl 0 rfl) ?_
  refine va_get (D := (dC, dI)) (ci := 5) (v := .int (bI it)) (C := RX5) (T := TX5) (N := 16) hx hb hts kin_5 hown hK hP 0 rfl rfl 4 (by decide) (hts _ (kcm kwm_289)) (fun _ h9 => h9) rfl dX5_again_2 ?_
  refine lv_if_eq (tgt := 12) hx hb dX5_again_5 (by decide) (fun c_5 => ?_) (fun c_5 => ?_)
  · refine lv_iconst (v := 1) hx hb dX5_again_12 (by decide) ?_
    refine va_put (D := (dC, dI)) (ci := 5) (v := .int 1) (ty := .int) (C := RX5) (T := TX5) (N := 16) hx hb hts kin_5 tyX5 tyX5_ok nmX5 hown hK hP hD hS 0 rfl rfl 0 (by decide) (hts _ (kcm kwm_204)) (fun _ h9 => h9) rfl (by decide +kernel) rfl rfl (Nat.le_of_ble_eq_true rfl) dX5_again_13 (fun H locs hP hD hS => ?_)
    have hP : va_P (dC, dI) kcl [(q, .inr (5, [.int 1, .ref tx, .int (nI mz), .int fl, .int (bI it), .long al, .ref pt, .int (nI dg), .ref ot, .int (nI wr), .int (nI kz), .ref ka, .ref kd, .ref kp, .int (nI ma), .int (bI wg)])), (tx, .inl (c1, 256, .inl X)), (ot, .inl (c3, 256, .inl U))] H := hP
    have hD : va_D A [(q, .inr (5, [.int 1, .ref tx, .int (nI mz), .int fl, .int (bI it), .long al, .ref pt, .int (nI dg), .ref ot, .int (nI wr), .int (nI kz), .ref ka, .ref kd, .ref kp, .int (nI ma), .int (bI wg)])), (tx, .inl (c1, 256, .inl X)), (ot, .inl (c3, 256, .inl U))] := hD
    refine lv_aload_n hx hb dX5_again_16 rfl (lv_at hl 0 rfl) ?_
    refine va_get (D := (dC, dI)) (ci := 5) (v := .int 1) (C := RX5) (T := TX5) (N := 16) hx hb hts kin_5 hown hK hP 0 rfl rfl 0 (by decide) (hts _ (kcm kwm_204)) (fun _ h9 => h9) rfl dX5_again_17 ?_
    refine lv_if_le (tgt := 25) hx hb dX5_again_20 (by decide) (fun c_20 => ?_) (fun c_20 => ?_)
    · exact absurd c_20 (by decide)
    · refine lv_iconst (v := 0) hx hb dX5_again_23 (by decide) ?_
      have hF9 : mAgain it U wr X mz = (0, 1, X, mz) := by
        first | (simp only [mAgain, if_pos c_5]; done) | rfl
      have hP9 : va_P (dC, dI) kcl [(q, .inr (5, [.int (mAgain it U wr X mz).2.1, .ref tx, .int (nI (mAgain it U wr X mz).2.2.2), .int fl, .int (bI it), .long al, .ref pt, .int (nI dg), .ref ot, .int (nI wr), .int (nI kz), .ref ka, .ref kd, .ref kp, .int (nI ma), .int (bI wg)])), (tx, .inl (c1, 256, .inl (mAgain it U wr X mz).2.2.1)), (ot, .inl (c3, 256, .inl U))] H := by
        try rw [hF9]
        exact hP.sub [0, 1, 2] rfl
      have hD9 : va_D A [(q, .inr (5, [.int (mAgain it U wr X mz).2.1, .ref tx, .int (nI (mAgain it U wr X mz).2.2.2), .int fl, .int (bI it), .long al, .ref pt, .int (nI dg), .ref ot, .int (nI wr), .int (nI kz), .ref ka, .ref kd, .ref kp, .int (nI ma), .int (bI wg)])), (tx, .inl (c1, 256, .inl (mAgain it U wr X mz).2.2.1)), (ot, .inl (c3, 256, .inl U))] := by
        try rw [hF9]
        exact hD.sub [0, 1, 2] (by decide) rfl
      have hv9 : (0 : Int32) = (mAgain it U wr X mz).1 := by
        try rw [hF9]
        try rfl
      exact kc_iret hx hb hr hlocks hv9 hP9 hD9 hS dX5_again_24
  · refine lv_iconst (v := 0) hx hb dX5_again_8 (by decide) ?_
    refine lv_goto (tgt := 13) hx hb dX5_again_9 (by decide) ?_
    refine va_put (D := (dC, dI)) (ci := 5) (v := .int 0) (ty := .int) (C := RX5) (T := TX5) (N := 16) hx hb hts kin_5 tyX5 tyX5_ok nmX5 hown hK hP hD hS 0 rfl rfl 0 (by decide) (hts _ (kcm kwm_204)) (fun _ h9 => h9) rfl (by decide +kernel) rfl rfl (Nat.le_of_ble_eq_true rfl) dX5_again_13 (fun H locs hP hD hS => ?_)
    have hP : va_P (dC, dI) kcl [(q, .inr (5, [.int 0, .ref tx, .int (nI mz), .int fl, .int (bI it), .long al, .ref pt, .int (nI dg), .ref ot, .int (nI wr), .int (nI kz), .ref ka, .ref kd, .ref kp, .int (nI ma), .int (bI wg)])), (tx, .inl (c1, 256, .inl X)), (ot, .inl (c3, 256, .inl U))] H := hP
    have hD : va_D A [(q, .inr (5, [.int 0, .ref tx, .int (nI mz), .int fl, .int (bI it), .long al, .ref pt, .int (nI dg), .ref ot, .int (nI wr), .int (nI kz), .ref ka, .ref kd, .ref kp, .int (nI ma), .int (bI wg)])), (tx, .inl (c1, 256, .inl X)), (ot, .inl (c3, 256, .inl U))] := hD
    refine lv_aload_n hx hb dX5_again_16 rfl (lv_at hl 0 rfl) ?_
    refine va_get (D := (dC, dI)) (ci := 5) (v := .int 0) (C := RX5) (T := TX5) (N := 16) hx hb hts kin_5 hown hK hP 0 rfl rfl 0 (by decide) (hts _ (kcm kwm_204)) (fun _ h9 => h9) rfl dX5_again_17 ?_
    refine lv_if_le (tgt := 25) hx hb dX5_again_20 (by decide) (fun c_20 => ?_) (fun c_20 => ?_)
    · refine lv_iconst (v := 0) hx hb dX5_again_25 (by decide) ?_
      refine lv_istore_n (lv' := [(1, .int 0), (0, .ref q)]) hx hb dX5_again_26 rfl hl (by decide) rfl (fun ls hl => ?_)
      have hF9 : mAgain it U wr X mz = (nI wr, 0, (mcL U wr wr 0 X), wr) := by
        first | (simp only [mAgain, if_neg c_5]; done) | rfl
      rw [hF9]
      rw [← nI_0] at hl
      exact lp_agm dC dI st q tx mz fl it al pt dg ot wr kz ka kd kp ma wg 0 c1 c3 U (mcL U wr wr 0 X) hw Cx hA hG hK wr 0 X (Nat.zero_le _) (by omega) rfl H locs ls hP hD hS (lv_sub hl [1, 0] rfl)
    · exact absurd (by decide) c_20
set_option maxHeartbeats 4000000 in
set_option maxRecDepth 100000 in
theorem lp_kpm {p : Program} {l : Launch} {e : Env} {s : State} {m : MethodId} {below : List Frame} {meth : Method} {c : Code} (dC : Nat → ClassId) (dI : Nat → Nat → Nat) (st : Nat) {A : Nat → Prop} (q : Nat) (tx : Nat) (mz : Nat) (fl : Int32) (it : Bool) (al : Int64) (pt : Nat) (dg : Nat) (ot : Nat) (wr : Nat) (kz : Nat) (ka : Nat) (kd : Nat) (kp : Nat) (ma : Nat) (wg : Bool) (th : Int32) (c2 : ClassId) (PD : Nat → Int32) (c4 : ClassId) (KA : Nat → Int64) (c5 : ClassId) (KD : Nat → Int32) (c6 : ClassId) (T : Nat → Int32) (hk9 : kz < 40) (hdg : dg ≤ 250) (Cx : kc_Cx yX5_keep cX5_keep (some .int) 2 wsX5_keep p s m ([.ref q] : List Value).toArray meth c) (hA : ∀ q, s.heap.size ≤ q → A q) (hG : kg st A s) (hK : va_K (dC, dI) kcl [(c2, .int), (c4, .long), (c5, .int), (c6, .int)] s) :
    ∀ (N : Nat) (i : Nat) (KP : Nat → Int32) (hi : i ≤ dg) (hN : dg ≤ i + N) (hT : mkL PD dg kz N i KP = T) (H : Heap) (locs : List Loc) (ls : Array Slot), va_P (dC, dI) kcl [(q, .inr (5, [.int th, .ref tx, .int (nI mz), .int fl, .int (bI it), .long al, .ref pt, .int (nI dg), .ref ot, .int (nI wr), .int (nI kz), .ref ka, .ref kd, .ref kp, .int (nI ma), .int (bI wg)])), (pt, .inl (c2, 256, .inl PD)), (ka, .inl (c4, 40, .inr (.inl KA))), (kd, .inl (c5, 40, .inl KD)), (kp, .inl (c6, 10240, .inl KP))] H → va_D A [(q, .inr (5, [.int th, .ref tx, .int (nI mz), .int fl, .int (bI it), .long al, .ref pt, .int (nI dg), .ref ot, .int (nI wr), .int (nI kz), .ref ka, .ref kd, .ref kp, .int (nI ma), .int (bI wg)])), (pt, .inl (c2, 256, .inl PD)), (ka, .inl (c4, 40, .inr (.inl KA))), (kd, .inl (c5, 40, .inl KD)), (kp, .inl (c6, 10240, .inl KP))] → va_S A s.heap H locs → lv_has ls 2 [(0, .ref q), (1, .int (nI i))] → W p l e ({ frames := 0, cells := 0, slots := 0, locals := 0 }) s m ([.ref q] : List Value).toArray below meth c H locs 0 0 (MQ below (kc_Qi (dC, dI) kcl (nI kz) [(q, .inr (5, [.int th, .ref tx, .int (nI mz), .int fl, .int (bI it), .long al, .ref pt, .int (nI dg), .ref ot, .int (nI wr), .int (nI (kz + 1)), .ref ka, .ref kd, .ref kp, .int (nI ma), .int (bI wg)])), (pt, .inl (c2, 256, .inl PD)), (ka, .inl (c4, 40, .inr (.inl KA))), (kd, .inl (c5, 40, .inl KD)), (kp, .inl (c6, 10240, .inl T))] A) ([.ref q] : List Value).toArray s 0 0 A) (F0 m 66 ls []) := by
  obtain ⟨hx, hb, hr, hml, hown, hts, hlocks, hnm⟩ := Cx
  intro N
  induction N with
  | zero =>
    intro i KP hi hN hT H locs ls hP hD hS hl
    refine lv_iload_n hx hb dX5_keep_66 rfl (lv_at hl 1 rfl) ?_
    refine lv_aload_n hx hb dX5_keep_67 rfl (lv_at hl 0 rfl) ?_
    refine va_get (D := (dC, dI)) (ci := 5) (v := .int (nI dg)) (C := RX5) (T := TX5) (N := 16) hx hb hts kin_5 hown hK hP 0 rfl rfl 7 (by decide) (hts _ (kcm kwm_236)) (fun _ h9 => h9) rfl dX5_keep_68 ?_
    refine lv_icmp_ge (tgt := 101) hx hb dX5_keep_71 (by decide) (fun c_71 => ?_) (fun c_71 => ?_)
    · have hT : KP = T := hT
      refine lv_aload_n hx hb dX5_keep_101 rfl (lv_at hl 0 rfl) ?_
      refine lv_dup hx hb dX5_keep_102 rfl ?_
      refine va_get (D := (dC, dI)) (ci := 5) (v := .int (nI kz)) (C := RX5) (T := TX5) (N := 16) hx hb hts kin_5 hown hK hP 0 rfl rfl 10 (by decide) (hts _ (kcm kwm_290)) (fun _ h9 => h9) rfl dX5_keep_103 ?_
      refine lv_iconst (v := 1) hx hb dX5_keep_106 (by decide) ?_
      refine lv_iadd hx hb dX5_keep_107 ?_
      rw [show (nI kz) + 1 = nI (kz + 1) from nI_add kz 1]
      refine va_put (D := (dC, dI)) (ci := 5) (v := .int (nI (kz + 1))) (ty := .int) (C := RX5) (T := TX5) (N := 16) hx hb hts kin_5 tyX5 tyX5_ok nmX5 hown hK hP hD hS 0 rfl rfl 10 (by decide) (hts _ (kcm kwm_290)) (fun _ h9 => h9) rfl (by decide +kernel) rfl rfl (Nat.le_of_ble_eq_true rfl) dX5_keep_108 (fun H locs hP hD hS => ?_)
      have hP : va_P (dC, dI) kcl [(q, .inr (5, [.int th, .ref tx, .int (nI mz), .int fl, .int (bI it), .long al, .ref pt, .int (nI dg), .ref ot, .int (nI wr), .int (nI (kz + 1)), .ref ka, .ref kd, .ref kp, .int (nI ma), .int (bI wg)])), (pt, .inl (c2, 256, .inl PD)), (ka, .inl (c4, 40, .inr (.inl KA))), (kd, .inl (c5, 40, .inl KD)), (kp, .inl (c6, 10240, .inl KP))] H := hP
      have hD : va_D A [(q, .inr (5, [.int th, .ref tx, .int (nI mz), .int fl, .int (bI it), .long al, .ref pt, .int (nI dg), .ref ot, .int (nI wr), .int (nI (kz + 1)), .ref ka, .ref kd, .ref kp, .int (nI ma), .int (bI wg)])), (pt, .inl (c2, 256, .inl PD)), (ka, .inl (c4, 40, .inr (.inl KA))), (kd, .inl (c5, 40, .inl KD)), (kp, .inl (c6, 10240, .inl KP))] := hD
      refine lv_aload_n hx hb dX5_keep_111 rfl (lv_at hl 0 rfl) ?_
      refine va_get (D := (dC, dI)) (ci := 5) (v := .int (nI (kz + 1))) (C := RX5) (T := TX5) (N := 16) hx hb hts kin_5 hown hK hP 0 rfl rfl 10 (by decide) (hts _ (kcm kwm_290)) (fun _ h9 => h9) rfl dX5_keep_112 ?_
      refine lv_iconst (v := 1) hx hb dX5_keep_115 (by decide) ?_
      refine lv_isub hx hb dX5_keep_116 ?_
      rw [show (nI (kz + 1)) - 1 = nI kz from nI_pred kz]
      have hP9 : va_P (dC, dI) kcl [(q, .inr (5, [.int th, .ref tx, .int (nI mz), .int fl, .int (bI it), .long al, .ref pt, .int (nI dg), .ref ot, .int (nI wr), .int (nI (kz + 1)), .ref ka, .ref kd, .ref kp, .int (nI ma), .int (bI wg)])), (pt, .inl (c2, 256, .inl PD)), (ka, .inl (c4, 40, .inr (.inl KA))), (kd, .inl (c5, 40, .inl KD)), (kp, .inl (c6, 10240, .inl T))] H := by
        try rw [← hT]
        exact hP.sub [0, 1, 2, 3, 4] rfl
      have hD9 : va_D A [(q, .inr (5, [.int th, .ref tx, .int (nI mz), .int fl, .int (bI it), .long al, .ref pt, .int (nI dg), .ref ot, .int (nI wr), .int (nI (kz + 1)), .ref ka, .ref kd, .ref kp, .int (nI ma), .int (bI wg)])), (pt, .inl (c2, 256, .inl PD)), (ka, .inl (c4, 40, .inr (.inl KA))), (kd, .inl (c5, 40, .inl KD)), (kp, .inl (c6, 10240, .inl T))] := by
        try rw [← hT]
        exact hD.sub [0, 1, 2, 3, 4] (by decide) rfl
      have hv9 : nI kz = nI kz := by
        try rw [← hT]
        try rfl
      exact kc_iret hx hb hr hlocks hv9 hP9 hD9 hS dX5_keep_117
    · exact absurd (nI_le (show dg ≤ i by omega) (by omega)) c_71
  | succ N ih =>
    intro i KP hi hN hT H locs ls hP hD hS hl
    refine lv_iload_n hx hb dX5_keep_66 rfl (lv_at hl 1 rfl) ?_
    refine lv_aload_n hx hb dX5_keep_67 rfl (lv_at hl 0 rfl) ?_
    refine va_get (D := (dC, dI)) (ci := 5) (v := .int (nI dg)) (C := RX5) (T := TX5) (N := 16) hx hb hts kin_5 hown hK hP 0 rfl rfl 7 (by decide) (hts _ (kcm kwm_236)) (fun _ h9 => h9) rfl dX5_keep_68 ?_
    refine lv_icmp_ge (tgt := 101) hx hb dX5_keep_71 (by decide) (fun c_71 => ?_) (fun c_71 => ?_)
    · have hT : KP = T := by rw [← hT]; exact (if_pos (show dg ≤ i by have := kb_ge c_71 (by omega); omega)).symm
      refine lv_aload_n hx hb dX5_keep_101 rfl (lv_at hl 0 rfl) ?_
      refine lv_dup hx hb dX5_keep_102 rfl ?_
      refine va_get (D := (dC, dI)) (ci := 5) (v := .int (nI kz)) (C := RX5) (T := TX5) (N := 16) hx hb hts kin_5 hown hK hP 0 rfl rfl 10 (by decide) (hts _ (kcm kwm_290)) (fun _ h9 => h9) rfl dX5_keep_103 ?_
      refine lv_iconst (v := 1) hx hb dX5_keep_106 (by decide) ?_
      refine lv_iadd hx hb dX5_keep_107 ?_
      rw [show (nI kz) + 1 = nI (kz + 1) from nI_add kz 1]
      refine va_put (D := (dC, dI)) (ci := 5) (v := .int (nI (kz + 1))) (ty := .int) (C := RX5) (T := TX5) (N := 16) hx hb hts kin_5 tyX5 tyX5_ok nmX5 hown hK hP hD hS 0 rfl rfl 10 (by decide) (hts _ (kcm kwm_290)) (fun _ h9 => h9) rfl (by decide +kernel) rfl rfl (Nat.le_of_ble_eq_true rfl) dX5_keep_108 (fun H locs hP hD hS => ?_)
      have hP : va_P (dC, dI) kcl [(q, .inr (5, [.int th, .ref tx, .int (nI mz), .int fl, .int (bI it), .long al, .ref pt, .int (nI dg), .ref ot, .int (nI wr), .int (nI (kz + 1)), .ref ka, .ref kd, .ref kp, .int (nI ma), .int (bI wg)])), (pt, .inl (c2, 256, .inl PD)), (ka, .inl (c4, 40, .inr (.inl KA))), (kd, .inl (c5, 40, .inl KD)), (kp, .inl (c6, 10240, .inl KP))] H := hP
      have hD : va_D A [(q, .inr (5, [.int th, .ref tx, .int (nI mz), .int fl, .int (bI it), .long al, .ref pt, .int (nI dg), .ref ot, .int (nI wr), .int (nI (kz + 1)), .ref ka, .ref kd, .ref kp, .int (nI ma), .int (bI wg)])), (pt, .inl (c2, 256, .inl PD)), (ka, .inl (c4, 40, .inr (.inl KA))), (kd, .inl (c5, 40, .inl KD)), (kp, .inl (c6, 10240, .inl KP))] := hD
      refine lv_aload_n hx hb dX5_keep_111 rfl (lv_at hl 0 rfl) ?_
      refine va_get (D := (dC, dI)) (ci := 5) (v := .int (nI (kz + 1))) (C := RX5) (T := TX5) (N := 16) hx hb hts kin_5 hown hK hP 0 rfl rfl 10 (by decide) (hts _ (kcm kwm_290)) (fun _ h9 => h9) rfl dX5_keep_112 ?_
      refine lv_iconst (v := 1) hx hb dX5_keep_115 (by decide) ?_
      refine lv_isub hx hb dX5_keep_116 ?_
      rw [show (nI (kz + 1)) - 1 = nI kz from nI_pred kz]
      have hP9 : va_P (dC, dI) kcl [(q, .inr (5, [.int th, .ref tx, .int (nI mz), .int fl, .int (bI it), .long al, .ref pt, .int (nI dg), .ref ot, .int (nI wr), .int (nI (kz + 1)), .ref ka, .ref kd, .ref kp, .int (nI ma), .int (bI wg)])), (pt, .inl (c2, 256, .inl PD)), (ka, .inl (c4, 40, .inr (.inl KA))), (kd, .inl (c5, 40, .inl KD)), (kp, .inl (c6, 10240, .inl T))] H := by
        try rw [← hT]
        exact hP.sub [0, 1, 2, 3, 4] rfl
      have hD9 : va_D A [(q, .inr (5, [.int th, .ref tx, .int (nI mz), .int fl, .int (bI it), .long al, .ref pt, .int (nI dg), .ref ot, .int (nI wr), .int (nI (kz + 1)), .ref ka, .ref kd, .ref kp, .int (nI ma), .int (bI wg)])), (pt, .inl (c2, 256, .inl PD)), (ka, .inl (c4, 40, .inr (.inl KA))), (kd, .inl (c5, 40, .inl KD)), (kp, .inl (c6, 10240, .inl T))] := by
        try rw [← hT]
        exact hD.sub [0, 1, 2, 3, 4] (by decide) rfl
      have hv9 : nI kz = nI kz := by
        try rw [← hT]
        try rfl
      exact kc_iret hx hb hr hlocks hv9 hP9 hD9 hS dX5_keep_117
    · have hlt : i < dg := kb_lt c_71 (by omega)
      have hlt9 : ¬ dg ≤ i := by omega
      refine lv_aload_n hx hb dX5_keep_74 rfl (lv_at hl 0 rfl) ?_
      refine va_get (D := (dC, dI)) (ci := 5) (v := .ref kp) (C := RX5) (T := TX5) (N := 16) hx hb hts kin_5 hown hK hP 0 rfl rfl 13 (by decide) (hts _ (kcm kwm_296)) (fun _ h9 => h9) rfl dX5_keep_75 ?_
      refine lv_sipush (v := 256) hx hb dX5_keep_78 (by decide) ?_
      refine lv_aload_n hx hb dX5_keep_81 rfl (lv_at hl 0 rfl) ?_
      refine va_get (D := (dC, dI)) (ci := 5) (v := .int (nI kz)) (C := RX5) (T := TX5) (N := 16) hx hb hts kin_5 hown hK hP 0 rfl rfl 10 (by decide) (hts _ (kcm kwm_290)) (fun _ h9 => h9) rfl dX5_keep_82 ?_
      refine lv_imul hx hb dX5_keep_85 ?_
      rw [show 256 * (nI kz) = nI (256 * kz) from pk_mul 256 kz]
      refine lv_iload_n hx hb dX5_keep_86 rfl (lv_at hl 1 rfl) ?_
      refine lv_iadd hx hb dX5_keep_87 ?_
      rw [show (nI (256 * kz)) + (nI i) = nI (256 * kz + i) from nI_add _ _]
      refine lv_aload_n hx hb dX5_keep_88 rfl (lv_at hl 0 rfl) ?_
      refine va_get (D := (dC, dI)) (ci := 5) (v := .ref pt) (C := RX5) (T := TX5) (N := 16) hx hb hts kin_5 hown hK hP 0 rfl rfl 6 (by decide) (hts _ (kcm kwm_237)) (fun _ h9 => h9) rfl dX5_keep_89 ?_
      refine lv_iload_n hx hb dX5_keep_92 rfl (lv_at hl 1 rfl) ?_
      refine va_iald hx hb hK hP 1 0 rfl rfl (vp_in_nI (by omega) (by decide)) dX5_keep_93 ?_
      rw [show (nI i).toNatClampNeg = i from nI_clamp (by omega)]
      refine va_iast hx hb hK hP hD hS 4 3 rfl rfl (vp_in_nI (by omega) (by decide)) dX5_keep_94 (fun H locs hP hD hS => ?_)
      rw [show (nI (256 * kz + i)).toNatClampNeg = (256 * kz + i) from nI_clamp (by omega)] at hP hD
      have hP : va_P (dC, dI) kcl [(q, .inr (5, [.int th, .ref tx, .int (nI mz), .int fl, .int (bI it), .long al, .ref pt, .int (nI dg), .ref ot, .int (nI wr), .int (nI kz), .ref ka, .ref kd, .ref kp, .int (nI ma), .int (bI wg)])), (pt, .inl (c2, 256, .inl PD)), (ka, .inl (c4, 40, .inr (.inl KA))), (kd, .inl (c5, 40, .inl KD)), (kp, .inl (c6, 10240, .inl (upd KP (256 * kz + i) (PD i))))] H := hP
      have hD : va_D A [(q, .inr (5, [.int th, .ref tx, .int (nI mz), .int fl, .int (bI it), .long al, .ref pt, .int (nI dg), .ref ot, .int (nI wr), .int (nI kz), .ref ka, .ref kd, .ref kp, .int (nI ma), .int (bI wg)])), (pt, .inl (c2, 256, .inl PD)), (ka, .inl (c4, 40, .inr (.inl KA))), (kd, .inl (c5, 40, .inl KD)), (kp, .inl (c6, 10240, .inl (upd KP (256 * kz + i) (PD i))))] := hD
      refine lv_iinc (v := (nI i) + 1) (lv' := [(1, .int ((nI i) + 1)), (0, .ref q)]) hx hb dX5_keep_95 hl (k := 1) rfl (congrArg (fun z => (nI i) + z) (show Int32.ofInt (1) = (1 : Int32) by decide)) (by decide) rfl (fun ls hl => ?_)
      refine lv_goto (tgt := 66) hx hb dX5_keep_98 (by decide) ?_
      rw [nI_1] at hl
      exact ih (i + 1) _ (by omega) (by omega) (by rw [← hT]; exact (if_neg hlt9).symm) H locs ls hP hD hS (lv_sub hl [1, 0] rfl)
def mKeep (it : Bool) (kz : Nat) (al : Int64) (dg : Nat) (PD : Nat → Int32) (KA : Nat → Int64) (KD KP : Nat → Int32) : Int32 × Int32 × Nat × (Nat → Int64) × (Nat → Int32) × (Nat → Int32) :=
  if (bI it) = 0 then
    (0, 1, kz, KA, KD, KP)
  else
    if (nI kz) = 40 then
      (0, 2, kz, KA, KD, KP)
    else
      (nI kz, 0, kz + 1, vp_updL KA kz al, upd KD kz (nI dg), (mkL PD dg kz dg 0 KP))
set_option maxHeartbeats 4000000 in
set_option maxRecDepth 100000 in
theorem m_keep (l : Launch) (dC : Nat → ClassId) (dI : Nat → Nat → Nat) (st sz : Nat) (q : Nat) (th : Int32) (tx : Nat) (mz : Nat) (fl : Int32) (it : Bool) (al : Int64) (pt : Nat) (dg : Nat) (ot : Nat) (wr : Nat) (kz : Nat) (ka : Nat) (kd : Nat) (kp : Nat) (ma : Nat) (wg : Bool) (c2 : ClassId) (PD : Nat → Int32) (c4 : ClassId) (KA : Nat → Int64) (c5 : ClassId) (KD : Nat → Int32) (c6 : ClassId) (KP : Nat → Int32) (hkz : kz ≤ 40) (hdg : dg ≤ 250) : Met l yX5_keep wsX5_keep ({ frames := 0, cells := 0, slots := 0, locals := 0 }) (kc_Pc (dC, dI) kcl st sz [.ref q] [(q, .inr (5, [.int th, .ref tx, .int (nI mz), .int fl, .int (bI it), .long al, .ref pt, .int (nI dg), .ref ot, .int (nI wr), .int (nI kz), .ref ka, .ref kd, .ref kp, .int (nI ma), .int (bI wg)])), (pt, .inl (c2, 256, .inl PD)), (ka, .inl (c4, 40, .inr (.inl KA))), (kd, .inl (c5, 40, .inl KD)), (kp, .inl (c6, 10240, .inl KP))] [(c2, .int), (c4, .long), (c5, .int), (c6, .int)]) (kc_Qi (dC, dI) kcl (mKeep it kz al dg PD KA KD KP).1 [(q, .inr (5, [.int (mKeep it kz al dg PD KA KD KP).2.1, .ref tx, .int (nI mz), .int fl, .int (bI it), .long al, .ref pt, .int (nI dg), .ref ot, .int (nI wr), .int (nI (mKeep it kz al dg PD KA KD KP).2.2.1), .ref ka, .ref kd, .ref kp, .int (nI ma), .int (bI wg)])), (pt, .inl (c2, 256, .inl PD)), (ka, .inl (c4, 40, .inr (.inl (mKeep it kz al dg PD KA KD KP).2.2.2.1))), (kd, .inl (c5, 40, .inl (mKeep it kz al dg PD KA KD KP).2.2.2.2.1)), (kp, .inl (c6, 10240, .inl (mKeep it kz al dg PD KA KD KP).2.2.2.2.2))] (va_A [(q, .inr (5, [.int th, .ref tx, .int (nI mz), .int fl, .int (bI it), .long al, .ref pt, .int (nI dg), .ref ot, .int (nI wr), .int (nI kz), .ref ka, .ref kd, .ref kp, .int (nI ma), .int (bI wg)])), (pt, .inl (c2, 256, .inl PD)), (ka, .inl (c4, 40, .inr (.inl KA))), (kd, .inl (c5, 40, .inl KD)), (kp, .inl (c6, 10240, .inl KP))] sz)) 0 0 (va_A [(q, .inr (5, [.int th, .ref tx, .int (nI mz), .int fl, .int (bI it), .long al, .ref pt, .int (nI dg), .ref ot, .int (nI wr), .int (nI kz), .ref ka, .ref kd, .ref kp, .int (nI ma), .int (bI wg)])), (pt, .inl (c2, 256, .inl PD)), (ka, .inl (c4, 40, .inr (.inl KA))), (kd, .inl (c5, 40, .inl KD)), (kp, .inl (c6, 10240, .inl KP))] sz) := by
  refine kc_ofW (Qc := fun A => (kc_Qi (dC, dI) kcl (mKeep it kz al dg PD KA KD KP).1 [(q, .inr (5, [.int (mKeep it kz al dg PD KA KD KP).2.1, .ref tx, .int (nI mz), .int fl, .int (bI it), .long al, .ref pt, .int (nI dg), .ref ot, .int (nI wr), .int (nI (mKeep it kz al dg PD KA KD KP).2.2.1), .ref ka, .ref kd, .ref kp, .int (nI ma), .int (bI wg)])), (pt, .inl (c2, 256, .inl PD)), (ka, .inl (c4, 40, .inr (.inl (mKeep it kz al dg PD KA KD KP).2.2.2.1))), (kd, .inl (c5, 40, .inl (mKeep it kz al dg PD KA KD KP).2.2.2.2.1)), (kp, .inl (c6, 10240, .inl (mKeep it kz al dg PD KA KD KP).2.2.2.2.2))] A)) (cc := cX5_keep) (maxL := 2) (ret := (some .int)) (by decide) rfl (Nat.le_of_ble_eq_true rfl) ?_
  intro p e s m below meth c A ls Cx hA hG hK hP hD hS hl
  obtain ⟨hx, hb, hr, hml, hown, hts, hlocks, hnm⟩ := id Cx
  have hl : lv_has ls 2 [(0, .ref q)] := hl
  refine lv_aload_n hx hb dX5_keep_0 rfl (lv_at hl 0 rfl) ?_
  refine lv_aload_n hx hb dX5_keep_1 rfl (lv_at hl 0 rfl) ?_
  refine va_get (D := (dC, dI)) (ci := 5) (v := .int (bI it)) (C := RX5) (T := TX5) (N := 16) hx hb hts kin_5 hown hK hP 0 rfl rfl 4 (by decide) (hts _ (kcm kwm_289)) (fun _ h9 => h9) rfl dX5_keep_2 ?_
  refine lv_if_ne (tgt := 12) hx hb dX5_keep_5 (by decide) (fun c_5 => ?_) (fun c_5 => ?_)
  · refine lv_aload_n hx hb dX5_keep_12 rfl (lv_at hl 0 rfl) ?_
    refine va_get (D := (dC, dI)) (ci := 5) (v := .int (nI kz)) (C := RX5) (T := TX5) (N := 16) hx hb hts kin_5 hown hK hP 0 rfl rfl 10 (by decide) (hts _ (kcm kwm_290)) (fun _ h9 => h9) rfl dX5_keep_13 ?_
    refine lv_bipush (v := 40) hx hb dX5_keep_16 (by decide) ?_
    refine lv_icmp_ne (tgt := 25) hx hb dX5_keep_18 (by decide) (fun c_18 => ?_) (fun c_18 => ?_)
    · refine lv_iconst (v := 0) hx hb dX5_keep_25 (by decide) ?_
      refine va_put (D := (dC, dI)) (ci := 5) (v := .int 0) (ty := .int) (C := RX5) (T := TX5) (N := 16) hx hb hts kin_5 tyX5 tyX5_ok nmX5 hown hK hP hD hS 0 rfl rfl 0 (by decide) (hts _ (kcm kwm_204)) (fun _ h9 => h9) rfl (by decide +kernel) rfl rfl (Nat.le_of_ble_eq_true rfl) dX5_keep_26 (fun H locs hP hD hS => ?_)
      have hP : va_P (dC, dI) kcl [(q, .inr (5, [.int 0, .ref tx, .int (nI mz), .int fl, .int (bI it), .long al, .ref pt, .int (nI dg), .ref ot, .int (nI wr), .int (nI kz), .ref ka, .ref kd, .ref kp, .int (nI ma), .int (bI wg)])), (pt, .inl (c2, 256, .inl PD)), (ka, .inl (c4, 40, .inr (.inl KA))), (kd, .inl (c5, 40, .inl KD)), (kp, .inl (c6, 10240, .inl KP))] H := hP
      have hD : va_D A [(q, .inr (5, [.int 0, .ref tx, .int (nI mz), .int fl, .int (bI it), .long al, .ref pt, .int (nI dg), .ref ot, .int (nI wr), .int (nI kz), .ref ka, .ref kd, .ref kp, .int (nI ma), .int (bI wg)])), (pt, .inl (c2, 256, .inl PD)), (ka, .inl (c4, 40, .inr (.inl KA))), (kd, .inl (c5, 40, .inl KD)), (kp, .inl (c6, 10240, .inl KP))] := hD
      refine lv_aload_n hx hb dX5_keep_29 rfl (lv_at hl 0 rfl) ?_
      refine va_get (D := (dC, dI)) (ci := 5) (v := .int 0) (C := RX5) (T := TX5) (N := 16) hx hb hts kin_5 hown hK hP 0 rfl rfl 0 (by decide) (hts _ (kcm kwm_204)) (fun _ h9 => h9) rfl dX5_keep_30 ?_
      refine lv_if_le (tgt := 38) hx hb dX5_keep_33 (by decide) (fun c_33 => ?_) (fun c_33 => ?_)
      · have hk9 : kz < 40 := kb_ne40 c_18 hkz
        refine lv_aload_n hx hb dX5_keep_38 rfl (lv_at hl 0 rfl) ?_
        refine va_get (D := (dC, dI)) (ci := 5) (v := .ref ka) (C := RX5) (T := TX5) (N := 16) hx hb hts kin_5 hown hK hP 0 rfl rfl 11 (by decide) (hts _ (kcm kwm_295)) (fun _ h9 => h9) rfl dX5_keep_39 ?_
        refine lv_aload_n hx hb dX5_keep_42 rfl (lv_at hl 0 rfl) ?_
        refine va_get (D := (dC, dI)) (ci := 5) (v := .int (nI kz)) (C := RX5) (T := TX5) (N := 16) hx hb hts kin_5 hown hK hP 0 rfl rfl 10 (by decide) (hts _ (kcm kwm_290)) (fun _ h9 => h9) rfl dX5_keep_43 ?_
        refine lv_aload_n hx hb dX5_keep_46 rfl (lv_at hl 0 rfl) ?_
        refine va_get (D := (dC, dI)) (ci := 5) (v := .long al) (C := RX5) (T := TX5) (N := 16) hx hb hts kin_5 hown hK hP 0 rfl rfl 5 (by decide) (hts _ (kcm kwm_217)) (fun _ h9 => h9) rfl dX5_keep_47 ?_
        refine va_last hx hb hK hP hD hS 2 1 rfl rfl (vp_in_nI (by omega) (by decide)) dX5_keep_50 (fun H locs hP hD hS => ?_)
        rw [show (nI kz).toNatClampNeg = kz from nI_clamp (by omega)] at hP hD
        have hP : va_P (dC, dI) kcl [(q, .inr (5, [.int 0, .ref tx, .int (nI mz), .int fl, .int (bI it), .long al, .ref pt, .int (nI dg), .ref ot, .int (nI wr), .int (nI kz), .ref ka, .ref kd, .ref kp, .int (nI ma), .int (bI wg)])), (pt, .inl (c2, 256, .inl PD)), (ka, .inl (c4, 40, .inr (.inl (vp_updL KA kz al)))), (kd, .inl (c5, 40, .inl KD)), (kp, .inl (c6, 10240, .inl KP))] H := hP
        have hD : va_D A [(q, .inr (5, [.int 0, .ref tx, .int (nI mz), .int fl, .int (bI it), .long al, .ref pt, .int (nI dg), .ref ot, .int (nI wr), .int (nI kz), .ref ka, .ref kd, .ref kp, .int (nI ma), .int (bI wg)])), (pt, .inl (c2, 256, .inl PD)), (ka, .inl (c4, 40, .inr (.inl (vp_updL KA kz al)))), (kd, .inl (c5, 40, .inl KD)), (kp, .inl (c6, 10240, .inl KP))] := hD
        refine lv_aload_n hx hb dX5_keep_51 rfl (lv_at hl 0 rfl) ?_
        refine va_get (D := (dC, dI)) (ci := 5) (v := .ref kd) (C := RX5) (T := TX5) (N := 16) hx hb hts kin_5 hown hK hP 0 rfl rfl 12 (by decide) (hts _ (kcm kwm_297)) (fun _ h9 => h9) rfl dX5_keep_52 ?_
        refine lv_aload_n hx hb dX5_keep_55 rfl (lv_at hl 0 rfl) ?_
        refine va_get (D := (dC, dI)) (ci := 5) (v := .int (nI kz)) (C := RX5) (T := TX5) (N := 16) hx hb hts kin_5 hown hK hP 0 rfl rfl 10 (by decide) (hts _ (kcm kwm_290)) (fun _ h9 => h9) rfl dX5_keep_56 ?_
        refine lv_aload_n hx hb dX5_keep_59 rfl (lv_at hl 0 rfl) ?_
        refine va_get (D := (dC, dI)) (ci := 5) (v := .int (nI dg)) (C := RX5) (T := TX5) (N := 16) hx hb hts kin_5 hown hK hP 0 rfl rfl 7 (by decide) (hts _ (kcm kwm_236)) (fun _ h9 => h9) rfl dX5_keep_60 ?_
        refine va_iast hx hb hK hP hD hS 3 2 rfl rfl (vp_in_nI (by omega) (by decide)) dX5_keep_63 (fun H locs hP hD hS => ?_)
        rw [show (nI kz).toNatClampNeg = kz from nI_clamp (by omega)] at hP hD
        have hP : va_P (dC, dI) kcl [(q, .inr (5, [.int 0, .ref tx, .int (nI mz), .int fl, .int (bI it), .long al, .ref pt, .int (nI dg), .ref ot, .int (nI wr), .int (nI kz), .ref ka, .ref kd, .ref kp, .int (nI ma), .int (bI wg)])), (pt, .inl (c2, 256, .inl PD)), (ka, .inl (c4, 40, .inr (.inl (vp_updL KA kz al)))), (kd, .inl (c5, 40, .inl (upd KD kz (nI dg)))), (kp, .inl (c6, 10240, .inl KP))] H := hP
        have hD : va_D A [(q, .inr (5, [.int 0, .ref tx, .int (nI mz), .int fl, .int (bI it), .long al, .ref pt, .int (nI dg), .ref ot, .int (nI wr), .int (nI kz), .ref ka, .ref kd, .ref kp, .int (nI ma), .int (bI wg)])), (pt, .inl (c2, 256, .inl PD)), (ka, .inl (c4, 40, .inr (.inl (vp_updL KA kz al)))), (kd, .inl (c5, 40, .inl (upd KD kz (nI dg)))), (kp, .inl (c6, 10240, .inl KP))] := hD
        refine lv_iconst (v := 0) hx hb dX5_keep_64 (by decide) ?_
        refine lv_istore_n (lv' := [(1, .int 0), (0, .ref q)]) hx hb dX5_keep_65 rfl hl (by decide) rfl (fun ls hl => ?_)
        have hF9 : mKeep it kz al dg PD KA KD KP = (nI kz, 0, kz + 1, vp_updL KA kz al, upd KD kz (nI dg), (mkL PD dg kz dg 0 KP)) := by
          first | (simp only [mKeep, if_neg c_5, if_neg c_18]; done) | rfl
        rw [hF9]
        rw [← nI_0] at hl
        exact lp_kpm dC dI st q tx mz fl it al pt dg ot wr kz ka kd kp ma wg 0 c2 PD c4 (vp_updL KA kz al) c5 (upd KD kz (nI dg)) c6 (mkL PD dg kz dg 0 KP) hk9 hdg Cx hA hG hK dg 0 KP (Nat.zero_le _) (by omega) rfl H locs ls hP hD hS (lv_sub hl [1, 0] rfl)
      · exact absurd (by decide) c_33
    · refine lv_iconst (v := 2) hx hb dX5_keep_21 (by decide) ?_
      refine lv_goto (tgt := 26) hx hb dX5_keep_22 (by decide) ?_
      refine va_put (D := (dC, dI)) (ci := 5) (v := .int 2) (ty := .int) (C := RX5) (T := TX5) (N := 16) hx hb hts kin_5 tyX5 tyX5_ok nmX5 hown hK hP hD hS 0 rfl rfl 0 (by decide) (hts _ (kcm kwm_204)) (fun _ h9 => h9) rfl (by decide +kernel) rfl rfl (Nat.le_of_ble_eq_true rfl) dX5_keep_26 (fun H locs hP hD hS => ?_)
      have hP : va_P (dC, dI) kcl [(q, .inr (5, [.int 2, .ref tx, .int (nI mz), .int fl, .int (bI it), .long al, .ref pt, .int (nI dg), .ref ot, .int (nI wr), .int (nI kz), .ref ka, .ref kd, .ref kp, .int (nI ma), .int (bI wg)])), (pt, .inl (c2, 256, .inl PD)), (ka, .inl (c4, 40, .inr (.inl KA))), (kd, .inl (c5, 40, .inl KD)), (kp, .inl (c6, 10240, .inl KP))] H := hP
      have hD : va_D A [(q, .inr (5, [.int 2, .ref tx, .int (nI mz), .int fl, .int (bI it), .long al, .ref pt, .int (nI dg), .ref ot, .int (nI wr), .int (nI kz), .ref ka, .ref kd, .ref kp, .int (nI ma), .int (bI wg)])), (pt, .inl (c2, 256, .inl PD)), (ka, .inl (c4, 40, .inr (.inl KA))), (kd, .inl (c5, 40, .inl KD)), (kp, .inl (c6, 10240, .inl KP))] := hD
      refine lv_aload_n hx hb dX5_keep_29 rfl (lv_at hl 0 rfl) ?_
      refine va_get (D := (dC, dI)) (ci := 5) (v := .int 2) (C := RX5) (T := TX5) (N := 16) hx hb hts kin_5 hown hK hP 0 rfl rfl 0 (by decide) (hts _ (kcm kwm_204)) (fun _ h9 => h9) rfl dX5_keep_30 ?_
      refine lv_if_le (tgt := 38) hx hb dX5_keep_33 (by decide) (fun c_33 => ?_) (fun c_33 => ?_)
      · exact absurd c_33 (by decide)
      · refine lv_iconst (v := 0) hx hb dX5_keep_36 (by decide) ?_
        have hF9 : mKeep it kz al dg PD KA KD KP = (0, 2, kz, KA, KD, KP) := by
          first | (simp only [mKeep, if_neg c_5, if_pos c_18]; done) | rfl
        have hP9 : va_P (dC, dI) kcl [(q, .inr (5, [.int (mKeep it kz al dg PD KA KD KP).2.1, .ref tx, .int (nI mz), .int fl, .int (bI it), .long al, .ref pt, .int (nI dg), .ref ot, .int (nI wr), .int (nI (mKeep it kz al dg PD KA KD KP).2.2.1), .ref ka, .ref kd, .ref kp, .int (nI ma), .int (bI wg)])), (pt, .inl (c2, 256, .inl PD)), (ka, .inl (c4, 40, .inr (.inl (mKeep it kz al dg PD KA KD KP).2.2.2.1))), (kd, .inl (c5, 40, .inl (mKeep it kz al dg PD KA KD KP).2.2.2.2.1)), (kp, .inl (c6, 10240, .inl (mKeep it kz al dg PD KA KD KP).2.2.2.2.2))] H := by
          try rw [hF9]
          exact hP.sub [0, 1, 2, 3, 4] rfl
        have hD9 : va_D A [(q, .inr (5, [.int (mKeep it kz al dg PD KA KD KP).2.1, .ref tx, .int (nI mz), .int fl, .int (bI it), .long al, .ref pt, .int (nI dg), .ref ot, .int (nI wr), .int (nI (mKeep it kz al dg PD KA KD KP).2.2.1), .ref ka, .ref kd, .ref kp, .int (nI ma), .int (bI wg)])), (pt, .inl (c2, 256, .inl PD)), (ka, .inl (c4, 40, .inr (.inl (mKeep it kz al dg PD KA KD KP).2.2.2.1))), (kd, .inl (c5, 40, .inl (mKeep it kz al dg PD KA KD KP).2.2.2.2.1)), (kp, .inl (c6, 10240, .inl (mKeep it kz al dg PD KA KD KP).2.2.2.2.2))] := by
          try rw [hF9]
          exact hD.sub [0, 1, 2, 3, 4] (by decide) rfl
        have hv9 : (0 : Int32) = (mKeep it kz al dg PD KA KD KP).1 := by
          try rw [hF9]
          try rfl
        exact kc_iret hx hb hr hlocks hv9 hP9 hD9 hS dX5_keep_37
  · refine lv_iconst (v := 1) hx hb dX5_keep_8 (by decide) ?_
    refine lv_goto (tgt := 26) hx hb dX5_keep_9 (by decide) ?_
    refine va_put (D := (dC, dI)) (ci := 5) (v := .int 1) (ty := .int) (C := RX5) (T := TX5) (N := 16) hx hb hts kin_5 tyX5 tyX5_ok nmX5 hown hK hP hD hS 0 rfl rfl 0 (by decide) (hts _ (kcm kwm_204)) (fun _ h9 => h9) rfl (by decide +kernel) rfl rfl (Nat.le_of_ble_eq_true rfl) dX5_keep_26 (fun H locs hP hD hS => ?_)
    have hP : va_P (dC, dI) kcl [(q, .inr (5, [.int 1, .ref tx, .int (nI mz), .int fl, .int (bI it), .long al, .ref pt, .int (nI dg), .ref ot, .int (nI wr), .int (nI kz), .ref ka, .ref kd, .ref kp, .int (nI ma), .int (bI wg)])), (pt, .inl (c2, 256, .inl PD)), (ka, .inl (c4, 40, .inr (.inl KA))), (kd, .inl (c5, 40, .inl KD)), (kp, .inl (c6, 10240, .inl KP))] H := hP
    have hD : va_D A [(q, .inr (5, [.int 1, .ref tx, .int (nI mz), .int fl, .int (bI it), .long al, .ref pt, .int (nI dg), .ref ot, .int (nI wr), .int (nI kz), .ref ka, .ref kd, .ref kp, .int (nI ma), .int (bI wg)])), (pt, .inl (c2, 256, .inl PD)), (ka, .inl (c4, 40, .inr (.inl KA))), (kd, .inl (c5, 40, .inl KD)), (kp, .inl (c6, 10240, .inl KP))] := hD
    refine lv_aload_n hx hb dX5_keep_29 rfl (lv_at hl 0 rfl) ?_
    refine va_get (D := (dC, dI)) (ci := 5) (v := .int 1) (C := RX5) (T := TX5) (N := 16) hx hb hts kin_5 hown hK hP 0 rfl rfl 0 (by decide) (hts _ (kcm kwm_204)) (fun _ h9 => h9) rfl dX5_keep_30 ?_
    refine lv_if_le (tgt := 38) hx hb dX5_keep_33 (by decide) (fun c_33 => ?_) (fun c_33 => ?_)
    · exact absurd c_33 (by decide)
    · refine lv_iconst (v := 0) hx hb dX5_keep_36 (by decide) ?_
      have hF9 : mKeep it kz al dg PD KA KD KP = (0, 1, kz, KA, KD, KP) := by
        first | (simp only [mKeep, if_pos c_5]; done) | rfl
      have hP9 : va_P (dC, dI) kcl [(q, .inr (5, [.int (mKeep it kz al dg PD KA KD KP).2.1, .ref tx, .int (nI mz), .int fl, .int (bI it), .long al, .ref pt, .int (nI dg), .ref ot, .int (nI wr), .int (nI (mKeep it kz al dg PD KA KD KP).2.2.1), .ref ka, .ref kd, .ref kp, .int (nI ma), .int (bI wg)])), (pt, .inl (c2, 256, .inl PD)), (ka, .inl (c4, 40, .inr (.inl (mKeep it kz al dg PD KA KD KP).2.2.2.1))), (kd, .inl (c5, 40, .inl (mKeep it kz al dg PD KA KD KP).2.2.2.2.1)), (kp, .inl (c6, 10240, .inl (mKeep it kz al dg PD KA KD KP).2.2.2.2.2))] H := by
        try rw [hF9]
        exact hP.sub [0, 1, 2, 3, 4] rfl
      have hD9 : va_D A [(q, .inr (5, [.int (mKeep it kz al dg PD KA KD KP).2.1, .ref tx, .int (nI mz), .int fl, .int (bI it), .long al, .ref pt, .int (nI dg), .ref ot, .int (nI wr), .int (nI (mKeep it kz al dg PD KA KD KP).2.2.1), .ref ka, .ref kd, .ref kp, .int (nI ma), .int (bI wg)])), (pt, .inl (c2, 256, .inl PD)), (ka, .inl (c4, 40, .inr (.inl (mKeep it kz al dg PD KA KD KP).2.2.2.1))), (kd, .inl (c5, 40, .inl (mKeep it kz al dg PD KA KD KP).2.2.2.2.1)), (kp, .inl (c6, 10240, .inl (mKeep it kz al dg PD KA KD KP).2.2.2.2.2))] := by
        try rw [hF9]
        exact hD.sub [0, 1, 2, 3, 4] (by decide) rfl
      have hv9 : (0 : Int32) = (mKeep it kz al dg PD KA KD KP).1 := by
        try rw [hF9]
        try rfl
      exact kc_iret hx hb hr hlocks hv9 hP9 hD9 hS dX5_keep_37
