abbrev cX5_count : ByteArray := prog_7_method_36_code
def yX5_count : MethodName := ⟨RX5, "count", "(I)I"⟩
abbrev cX5_fault : ByteArray := prog_7_method_25_code
def yX5_fault : MethodName := ⟨RX5, "fault", "()I"⟩
abbrev cX5_isKept : ByteArray := prog_7_method_32_code
def yX5_isKept : MethodName := ⟨RX5, "isKept", "(I)Z"⟩
abbrev cX5_out : ByteArray := prog_7_method_26_code
def yX5_out : MethodName := ⟨RX5, "out", "(I)I"⟩
abbrev cX5_read : ByteArray := prog_7_method_22_code
def yX5_read : MethodName := ⟨RX5, "read", "(I)I"⟩
abbrev cX5_seconds : ByteArray := prog_7_method_28_code
def yX5_seconds : MethodName := ⟨RX5, "seconds", "()J"⟩
abbrev cX5_unit : ByteArray := prog_7_method_30_code
def yX5_unit : MethodName := ⟨RX5, "unit", "(I)I"⟩
abbrev wsX5_count : List Cond := .code yX5_count cX5_count 2 (some .int) :: kw
abbrev wsX5_fault : List Cond := .code yX5_fault cX5_fault 1 (some .int) :: kw
abbrev wsX5_isKept : List Cond := .code yX5_isKept cX5_isKept 2 (some .boolean) :: kw
abbrev wsX5_out : List Cond := .code yX5_out cX5_out 2 (some .int) :: kw
abbrev wsX5_read : List Cond := .code yX5_read cX5_read 2 (some .int) :: kw
abbrev wsX5_seconds : List Cond := .code yX5_seconds cX5_seconds 1 (some .long) :: kw
abbrev wsX5_unit : List Cond := .code yX5_unit cX5_unit 2 (some .int) :: kw
theorem kwm_280 : (.code yX5_readAll cX5_readAll 12 (some .int) : Cond) ∈ kw := kw_in (i := 601) (by decide +kernel) (by decide +kernel)
theorem kwm_281 : (.methodLink RX5 106 yX5_readAll : Cond) ∈ kw := kw_in (i := 598) (by decide +kernel) (by decide +kernel)
theorem kwm_282 : (.instanceMethod yX5_readAll : Cond) ∈ kw := kw_in (i := 600) (by decide +kernel) (by decide +kernel)
theorem kwm_283 : (.selects RX5 yX5_readAll yX5_readAll : Cond) ∈ kw := kw_in (i := 16) (by decide +kernel) (by decide +kernel)
theorem kwm_284 : (.code yX5_write cX5_write 3 none : Cond) ∈ kw := kw_in (i := 651) (by decide +kernel) (by decide +kernel)
theorem kwm_285 : (.methodLink RX5 118 yX5_write : Cond) ∈ kw := kw_in (i := 648) (by decide +kernel) (by decide +kernel)
theorem kwm_286 : (.instanceMethod yX5_write : Cond) ∈ kw := kw_in (i := 650) (by decide +kernel) (by decide +kernel)
theorem kwm_287 : (.selects RX5 yX5_write yX5_write : Cond) ∈ kw := kw_in (i := 25) (by decide +kernel) (by decide +kernel)
theorem kwm_288 : (.fieldLink RX5 109 "ClockTextsModel" "fault" "I" : Cond) ∈ kw := kw_in (i := 532) (by decide +kernel) (by decide +kernel)
theorem kwm_289 : (.fieldLink RX5 115 "ClockTextsModel" "isTime" "Z" : Cond) ∈ kw := kw_in (i := 533) (by decide +kernel) (by decide +kernel)
theorem kwm_290 : (.fieldLink RX5 131 "ClockTextsModel" "kept" "I" : Cond) ∈ kw := kw_in (i := 539) (by decide +kernel) (by decide +kernel)
theorem dX5_read_0 : decode cX5_read 0 = .ok (.aload_n 0, 1) := by decide +kernel
theorem dX5_read_1 : decode cX5_read 1 = .ok (.iload_n 1, 1) := by decide +kernel
theorem dX5_read_2 : decode cX5_read 2 = .ok (.ifCond .lt 8, 3) := by decide +kernel
theorem dX5_read_5 : decode cX5_read 5 = .ok (.iload_n 1, 1) := by decide +kernel
theorem dX5_read_6 : decode cX5_read 6 = .ok (.iconst 1, 1) := by decide +kernel
theorem dX5_read_7 : decode cX5_read 7 = .ok (.if_icmp .le 7, 3) := by decide +kernel
theorem dX5_read_10 : decode cX5_read 10 = .ok (.iconst 1, 1) := by decide +kernel
theorem dX5_read_11 : decode cX5_read 11 = .ok (.goto 4, 3) := by decide +kernel
theorem dX5_read_14 : decode cX5_read 14 = .ok (.iconst 0, 1) := by decide +kernel
theorem dX5_read_15 : decode cX5_read 15 = .ok (.putfield 29, 3) := by decide +kernel
theorem dX5_read_18 : decode cX5_read 18 = .ok (.aload_n 0, 1) := by decide +kernel
theorem dX5_read_19 : decode cX5_read 19 = .ok (.getfield 29, 3) := by decide +kernel
theorem dX5_read_22 : decode cX5_read 22 = .ok (.ifCond .le 5, 3) := by decide +kernel
theorem dX5_read_25 : decode cX5_read 25 = .ok (.iconst 0, 1) := by decide +kernel
theorem dX5_read_26 : decode cX5_read 26 = .ok (.ireturn, 1) := by decide +kernel
theorem dX5_read_27 : decode cX5_read 27 = .ok (.aload_n 0, 1) := by decide +kernel
theorem dX5_read_28 : decode cX5_read 28 = .ok (.aload_n 0, 1) := by decide +kernel
theorem dX5_read_29 : decode cX5_read 29 = .ok (.iload_n 1, 1) := by decide +kernel
theorem dX5_read_30 : decode cX5_read 30 = .ok (.invokevirtual 106, 3) := by decide +kernel
theorem dX5_read_33 : decode cX5_read 33 = .ok (.putfield 109, 3) := by decide +kernel
theorem dX5_read_36 : decode cX5_read 36 = .ok (.aload_n 0, 1) := by decide +kernel
theorem dX5_read_37 : decode cX5_read 37 = .ok (.iconst 0, 1) := by decide +kernel
theorem dX5_read_38 : decode cX5_read 38 = .ok (.putfield 33, 3) := by decide +kernel
theorem dX5_read_41 : decode cX5_read 41 = .ok (.aload_n 0, 1) := by decide +kernel
theorem dX5_read_42 : decode cX5_read 42 = .ok (.iconst 0, 1) := by decide +kernel
theorem dX5_read_43 : decode cX5_read 43 = .ok (.putfield 112, 3) := by decide +kernel
theorem dX5_read_46 : decode cX5_read 46 = .ok (.aload_n 0, 1) := by decide +kernel
theorem dX5_read_47 : decode cX5_read 47 = .ok (.aload_n 0, 1) := by decide +kernel
theorem dX5_read_48 : decode cX5_read 48 = .ok (.getfield 109, 3) := by decide +kernel
theorem dX5_read_51 : decode cX5_read 51 = .ok (.ifCond .ne 7, 3) := by decide +kernel
theorem dX5_read_54 : decode cX5_read 54 = .ok (.iconst 1, 1) := by decide +kernel
theorem dX5_read_55 : decode cX5_read 55 = .ok (.goto 4, 3) := by decide +kernel
theorem dX5_read_58 : decode cX5_read 58 = .ok (.iconst 0, 1) := by decide +kernel
theorem dX5_read_59 : decode cX5_read 59 = .ok (.putfield 115, 3) := by decide +kernel
theorem dX5_read_62 : decode cX5_read 62 = .ok (.aload_n 0, 1) := by decide +kernel
theorem dX5_read_63 : decode cX5_read 63 = .ok (.aload_n 0, 1) := by decide +kernel
theorem dX5_read_64 : decode cX5_read 64 = .ok (.getfield 115, 3) := by decide +kernel
theorem dX5_read_67 : decode cX5_read 67 = .ok (.ifCond .eq 7, 3) := by decide +kernel
theorem dX5_read_70 : decode cX5_read 70 = .ok (.iconst 0, 1) := by decide +kernel
theorem dX5_read_71 : decode cX5_read 71 = .ok (.goto 4, 3) := by decide +kernel
theorem dX5_read_74 : decode cX5_read 74 = .ok (.iconst 1, 1) := by decide +kernel
theorem dX5_read_75 : decode cX5_read 75 = .ok (.putfield 29, 3) := by decide +kernel
theorem dX5_read_78 : decode cX5_read 78 = .ok (.aload_n 0, 1) := by decide +kernel
theorem dX5_read_79 : decode cX5_read 79 = .ok (.getfield 115, 3) := by decide +kernel
theorem dX5_read_82 : decode cX5_read 82 = .ok (.ifCond .eq 8, 3) := by decide +kernel
theorem dX5_read_85 : decode cX5_read 85 = .ok (.aload_n 0, 1) := by decide +kernel
theorem dX5_read_86 : decode cX5_read 86 = .ok (.iload_n 1, 1) := by decide +kernel
theorem dX5_read_87 : decode cX5_read 87 = .ok (.invokevirtual 118, 3) := by decide +kernel
theorem dX5_read_90 : decode cX5_read 90 = .ok (.aload_n 0, 1) := by decide +kernel
theorem dX5_read_91 : decode cX5_read 91 = .ok (.getfield 112, 3) := by decide +kernel
theorem dX5_read_94 : decode cX5_read 94 = .ok (.ireturn, 1) := by decide +kernel
theorem dX5_fault_0 : decode cX5_fault 0 = .ok (.aload_n 0, 1) := by decide +kernel
theorem dX5_fault_1 : decode cX5_fault 1 = .ok (.iconst 0, 1) := by decide +kernel
theorem dX5_fault_2 : decode cX5_fault 2 = .ok (.putfield 29, 3) := by decide +kernel
theorem dX5_fault_5 : decode cX5_fault 5 = .ok (.aload_n 0, 1) := by decide +kernel
theorem dX5_fault_6 : decode cX5_fault 6 = .ok (.getfield 109, 3) := by decide +kernel
theorem dX5_fault_9 : decode cX5_fault 9 = .ok (.ireturn, 1) := by decide +kernel
theorem dX5_out_0 : decode cX5_out 0 = .ok (.aload_n 0, 1) := by decide +kernel
theorem dX5_out_1 : decode cX5_out 1 = .ok (.iload_n 1, 1) := by decide +kernel
theorem dX5_out_2 : decode cX5_out 2 = .ok (.ifCond .lt 11, 3) := by decide +kernel
theorem dX5_out_5 : decode cX5_out 5 = .ok (.iload_n 1, 1) := by decide +kernel
theorem dX5_out_6 : decode cX5_out 6 = .ok (.aload_n 0, 1) := by decide +kernel
theorem dX5_out_7 : decode cX5_out 7 = .ok (.getfield 112, 3) := by decide +kernel
theorem dX5_out_10 : decode cX5_out 10 = .ok (.if_icmp .lt 7, 3) := by decide +kernel
theorem dX5_out_13 : decode cX5_out 13 = .ok (.iconst 1, 1) := by decide +kernel
theorem dX5_out_14 : decode cX5_out 14 = .ok (.goto 4, 3) := by decide +kernel
theorem dX5_out_17 : decode cX5_out 17 = .ok (.iconst 0, 1) := by decide +kernel
theorem dX5_out_18 : decode cX5_out 18 = .ok (.putfield 29, 3) := by decide +kernel
theorem dX5_out_21 : decode cX5_out 21 = .ok (.aload_n 0, 1) := by decide +kernel
theorem dX5_out_22 : decode cX5_out 22 = .ok (.getfield 29, 3) := by decide +kernel
theorem dX5_out_25 : decode cX5_out 25 = .ok (.ifCond .le 7, 3) := by decide +kernel
theorem dX5_out_28 : decode cX5_out 28 = .ok (.iconst 0, 1) := by decide +kernel
theorem dX5_out_29 : decode cX5_out 29 = .ok (.goto 9, 3) := by decide +kernel
theorem dX5_out_32 : decode cX5_out 32 = .ok (.aload_n 0, 1) := by decide +kernel
theorem dX5_out_33 : decode cX5_out 33 = .ok (.getfield 16, 3) := by decide +kernel
theorem dX5_out_36 : decode cX5_out 36 = .ok (.iload_n 1, 1) := by decide +kernel
theorem dX5_out_37 : decode cX5_out 37 = .ok (.iaload, 1) := by decide +kernel
theorem dX5_out_38 : decode cX5_out 38 = .ok (.ireturn, 1) := by decide +kernel
theorem dX5_seconds_0 : decode cX5_seconds 0 = .ok (.aload_n 0, 1) := by decide +kernel
theorem dX5_seconds_1 : decode cX5_seconds 1 = .ok (.aload_n 0, 1) := by decide +kernel
theorem dX5_seconds_2 : decode cX5_seconds 2 = .ok (.getfield 115, 3) := by decide +kernel
theorem dX5_seconds_5 : decode cX5_seconds 5 = .ok (.ifCond .eq 7, 3) := by decide +kernel
theorem dX5_seconds_8 : decode cX5_seconds 8 = .ok (.iconst 0, 1) := by decide +kernel
theorem dX5_seconds_9 : decode cX5_seconds 9 = .ok (.goto 4, 3) := by decide +kernel
theorem dX5_seconds_12 : decode cX5_seconds 12 = .ok (.iconst 1, 1) := by decide +kernel
theorem dX5_seconds_13 : decode cX5_seconds 13 = .ok (.putfield 29, 3) := by decide +kernel
theorem dX5_seconds_16 : decode cX5_seconds 16 = .ok (.aload_n 0, 1) := by decide +kernel
theorem dX5_seconds_17 : decode cX5_seconds 17 = .ok (.getfield 115, 3) := by decide +kernel
theorem dX5_seconds_20 : decode cX5_seconds 20 = .ok (.ifCond .eq 10, 3) := by decide +kernel
theorem dX5_seconds_23 : decode cX5_seconds 23 = .ok (.aload_n 0, 1) := by decide +kernel
theorem dX5_seconds_24 : decode cX5_seconds 24 = .ok (.getfield 52, 3) := by decide +kernel
theorem dX5_seconds_27 : decode cX5_seconds 27 = .ok (.goto 4, 3) := by decide +kernel
theorem dX5_seconds_30 : decode cX5_seconds 30 = .ok (.lconst 0, 1) := by decide +kernel
theorem dX5_seconds_31 : decode cX5_seconds 31 = .ok (.lreturn, 1) := by decide +kernel
theorem dX5_unit_0 : decode cX5_unit 0 = .ok (.aload_n 0, 1) := by decide +kernel
theorem dX5_unit_1 : decode cX5_unit 1 = .ok (.aload_n 0, 1) := by decide +kernel
theorem dX5_unit_2 : decode cX5_unit 2 = .ok (.getfield 115, 3) := by decide +kernel
theorem dX5_unit_5 : decode cX5_unit 5 = .ok (.ifCond .ne 7, 3) := by decide +kernel
theorem dX5_unit_8 : decode cX5_unit 8 = .ok (.iconst 1, 1) := by decide +kernel
theorem dX5_unit_9 : decode cX5_unit 9 = .ok (.goto 18, 3) := by decide +kernel
theorem dX5_unit_12 : decode cX5_unit 12 = .ok (.iload_n 1, 1) := by decide +kernel
theorem dX5_unit_13 : decode cX5_unit 13 = .ok (.ifCond .lt 9, 3) := by decide +kernel
theorem dX5_unit_16 : decode cX5_unit 16 = .ok (.iload_n 1, 1) := by decide +kernel
theorem dX5_unit_17 : decode cX5_unit 17 = .ok (.bipush 7, 2) := by decide +kernel
theorem dX5_unit_19 : decode cX5_unit 19 = .ok (.if_icmp .le 7, 3) := by decide +kernel
theorem dX5_unit_22 : decode cX5_unit 22 = .ok (.iconst 2, 1) := by decide +kernel
theorem dX5_unit_23 : decode cX5_unit 23 = .ok (.goto 4, 3) := by decide +kernel
theorem dX5_unit_26 : decode cX5_unit 26 = .ok (.iconst 0, 1) := by decide +kernel
theorem dX5_unit_27 : decode cX5_unit 27 = .ok (.putfield 29, 3) := by decide +kernel
theorem dX5_unit_30 : decode cX5_unit 30 = .ok (.aload_n 0, 1) := by decide +kernel
theorem dX5_unit_31 : decode cX5_unit 31 = .ok (.getfield 29, 3) := by decide +kernel
theorem dX5_unit_34 : decode cX5_unit 34 = .ok (.ifCond .le 7, 3) := by decide +kernel
theorem dX5_unit_37 : decode cX5_unit 37 = .ok (.iconst 0, 1) := by decide +kernel
theorem dX5_unit_38 : decode cX5_unit 38 = .ok (.goto 8, 3) := by decide +kernel
theorem dX5_unit_41 : decode cX5_unit 41 = .ok (.aload_n 0, 1) := by decide +kernel
theorem dX5_unit_42 : decode cX5_unit 42 = .ok (.iload_n 1, 1) := by decide +kernel
theorem dX5_unit_43 : decode cX5_unit 43 = .ok (.invokevirtual 121, 3) := by decide +kernel
theorem dX5_unit_46 : decode cX5_unit 46 = .ok (.ireturn, 1) := by decide +kernel
theorem dX5_count_0 : decode cX5_count 0 = .ok (.aload_n 0, 1) := by decide +kernel
theorem dX5_count_1 : decode cX5_count 1 = .ok (.iconst 0, 1) := by decide +kernel
theorem dX5_count_2 : decode cX5_count 2 = .ok (.putfield 29, 3) := by decide +kernel
theorem dX5_count_5 : decode cX5_count 5 = .ok (.iload_n 1, 1) := by decide +kernel
theorem dX5_count_6 : decode cX5_count 6 = .ok (.ifCond .ne 10, 3) := by decide +kernel
theorem dX5_count_9 : decode cX5_count 9 = .ok (.aload_n 0, 1) := by decide +kernel
theorem dX5_count_10 : decode cX5_count 10 = .ok (.getfield 33, 3) := by decide +kernel
theorem dX5_count_13 : decode cX5_count 13 = .ok (.goto 28, 3) := by decide +kernel
theorem dX5_count_16 : decode cX5_count 16 = .ok (.iload_n 1, 1) := by decide +kernel
theorem dX5_count_17 : decode cX5_count 17 = .ok (.iconst 1, 1) := by decide +kernel
theorem dX5_count_18 : decode cX5_count 18 = .ok (.if_icmp .ne 10, 3) := by decide +kernel
theorem dX5_count_21 : decode cX5_count 21 = .ok (.aload_n 0, 1) := by decide +kernel
theorem dX5_count_22 : decode cX5_count 22 = .ok (.getfield 112, 3) := by decide +kernel
theorem dX5_count_25 : decode cX5_count 25 = .ok (.goto 16, 3) := by decide +kernel
theorem dX5_count_28 : decode cX5_count 28 = .ok (.iload_n 1, 1) := by decide +kernel
theorem dX5_count_29 : decode cX5_count 29 = .ok (.iconst 2, 1) := by decide +kernel
theorem dX5_count_30 : decode cX5_count 30 = .ok (.if_icmp .ne 10, 3) := by decide +kernel
theorem dX5_count_33 : decode cX5_count 33 = .ok (.aload_n 0, 1) := by decide +kernel
theorem dX5_count_34 : decode cX5_count 34 = .ok (.getfield 131, 3) := by decide +kernel
theorem dX5_count_37 : decode cX5_count 37 = .ok (.goto 4, 3) := by decide +kernel
theorem dX5_count_40 : decode cX5_count 40 = .ok (.iconst (-1), 1) := by decide +kernel
theorem dX5_count_41 : decode cX5_count 41 = .ok (.ireturn, 1) := by decide +kernel
theorem dX5_isKept_0 : decode cX5_isKept 0 = .ok (.iload_n 1, 1) := by decide +kernel
theorem dX5_isKept_1 : decode cX5_isKept 1 = .ok (.ifCond .lt 15, 3) := by decide +kernel
theorem dX5_isKept_4 : decode cX5_isKept 4 = .ok (.iload_n 1, 1) := by decide +kernel
theorem dX5_isKept_5 : decode cX5_isKept 5 = .ok (.aload_n 0, 1) := by decide +kernel
theorem dX5_isKept_6 : decode cX5_isKept 6 = .ok (.getfield 131, 3) := by decide +kernel
theorem dX5_isKept_9 : decode cX5_isKept 9 = .ok (.if_icmp .ge 7, 3) := by decide +kernel
theorem dX5_isKept_12 : decode cX5_isKept 12 = .ok (.iconst 1, 1) := by decide +kernel
theorem dX5_isKept_13 : decode cX5_isKept 13 = .ok (.goto 4, 3) := by decide +kernel
theorem dX5_isKept_16 : decode cX5_isKept 16 = .ok (.iconst 0, 1) := by decide +kernel
theorem dX5_isKept_17 : decode cX5_isKept 17 = .ok (.ireturn, 1) := by decide +kernel
def mRead (X : Nat → Int32) (mz : Nat) (PD : Nat → Int32) (kind : Int32) (al : Int64) (U : Nat → Int32) (fl : Int32) (it : Bool) (wr ma : Nat) (wg : Bool) (dg : Nat) : Int32 × Int32 × Nat × Int32 × Bool × Int64 × Nat × Nat × Nat × Bool × (Nat → Int32) × (Nat → Int32) :=
  if kind < 0 then
    (0, 1, mz, fl, it, al, dg, wr, ma, wg, PD, U)
  else
    if kind ≤ 1 then
      let v_30 := mAll X mz PD kind al
      if v_30.1 = 0 then
        let v_87 := mWrite v_30.2.1 v_30.2.2.2.2.2 v_30.2.2.2.2.1 kind U 0
        (nI v_87.2, 0, 0, v_30.1, true, v_30.2.1, v_30.2.2.2.2.2, v_87.2, v_30.2.2.1, v_30.2.2.2.1, v_30.2.2.2.2.1, v_87.1)
      else
        (nI 0, 1, 0, v_30.1, false, v_30.2.1, v_30.2.2.2.2.2, 0, v_30.2.2.1, v_30.2.2.2.1, v_30.2.2.2.2.1, U)
    else
      (0, 1, mz, fl, it, al, dg, wr, ma, wg, PD, U)
set_option maxHeartbeats 4000000 in
set_option maxRecDepth 100000 in
theorem m_read (l : Launch) (dC : Nat → ClassId) (dI : Nat → Nat → Nat) (st sz : Nat) (q : Nat) (th : Int32) (tx : Nat) (mz : Nat) (fl : Int32) (it : Bool) (al : Int64) (pt : Nat) (dg : Nat) (ot : Nat) (wr : Nat) (kz : Nat) (ka : Nat) (kd : Nat) (kp : Nat) (ma : Nat) (wg : Bool) (c1 : ClassId) (X : Nat → Int32) (c2 : ClassId) (PD : Nat → Int32) (c3 : ClassId) (U : Nat → Int32) (kind : Int32) (hz : mz ≤ 242) (hR : (mAll X mz PD kind al).1 = 0 → (yrL (mDay (mAll X mz PD kind al).2.1) 10100 (mDay (mAll X mz PD kind al).2.1 / 366)).isSome = true ∧ (moL (yrF (mDay (mAll X mz PD kind al).2.1)) 13 (mDay (mAll X mz PD kind al).2.1 - mTo (yrF (mDay (mAll X mz PD kind al).2.1))) 1).isSome = true ∧ moF (mAll X mz PD kind al).2.1 ≤ 12 ∧ (mAll X mz PD kind al).2.2.2.2.2 ≤ 240) : Met l yX5_read wsX5_read ({ frames := 5, cells := 0, slots := 0, locals := 120 }) (kc_Pc (dC, dI) kcl st sz [.ref q, .int kind] [(q, .inr (5, [.int th, .ref tx, .int (nI mz), .int fl, .int (bI it), .long al, .ref pt, .int (nI dg), .ref ot, .int (nI wr), .int (nI kz), .ref ka, .ref kd, .ref kp, .int (nI ma), .int (bI wg)])), (tx, .inl (c1, 256, .inl X)), (pt, .inl (c2, 256, .inl PD)), (ot, .inl (c3, 256, .inl U))] [(c1, .int), (c2, .int), (c3, .int)]) (kc_Qi (dC, dI) kcl (mRead X mz PD kind al U fl it wr ma wg dg).1 [(q, .inr (5, [.int (mRead X mz PD kind al U fl it wr ma wg dg).2.1, .ref tx, .int (nI (mRead X mz PD kind al U fl it wr ma wg dg).2.2.1), .int (mRead X mz PD kind al U fl it wr ma wg dg).2.2.2.1, .int (bI (mRead X mz PD kind al U fl it wr ma wg dg).2.2.2.2.1), .long (mRead X mz PD kind al U fl it wr ma wg dg).2.2.2.2.2.1, .ref pt, .int (nI (mRead X mz PD kind al U fl it wr ma wg dg).2.2.2.2.2.2.1), .ref ot, .int (nI (mRead X mz PD kind al U fl it wr ma wg dg).2.2.2.2.2.2.2.1), .int (nI kz), .ref ka, .ref kd, .ref kp, .int (nI (mRead X mz PD kind al U fl it wr ma wg dg).2.2.2.2.2.2.2.2.1), .int (bI (mRead X mz PD kind al U fl it wr ma wg dg).2.2.2.2.2.2.2.2.2.1)])), (tx, .inl (c1, 256, .inl X)), (pt, .inl (c2, 256, .inl (mRead X mz PD kind al U fl it wr ma wg dg).2.2.2.2.2.2.2.2.2.2.1)), (ot, .inl (c3, 256, .inl (mRead X mz PD kind al U fl it wr ma wg dg).2.2.2.2.2.2.2.2.2.2.2))] (va_A [(q, .inr (5, [.int th, .ref tx, .int (nI mz), .int fl, .int (bI it), .long al, .ref pt, .int (nI dg), .ref ot, .int (nI wr), .int (nI kz), .ref ka, .ref kd, .ref kp, .int (nI ma), .int (bI wg)])), (tx, .inl (c1, 256, .inl X)), (pt, .inl (c2, 256, .inl PD)), (ot, .inl (c3, 256, .inl U))] sz)) 0 0 (va_A [(q, .inr (5, [.int th, .ref tx, .int (nI mz), .int fl, .int (bI it), .long al, .ref pt, .int (nI dg), .ref ot, .int (nI wr), .int (nI kz), .ref ka, .ref kd, .ref kp, .int (nI ma), .int (bI wg)])), (tx, .inl (c1, 256, .inl X)), (pt, .inl (c2, 256, .inl PD)), (ot, .inl (c3, 256, .inl U))] sz) := by
  refine kc_ofW (Qc := fun A => (kc_Qi (dC, dI) kcl (mRead X mz PD kind al U fl it wr ma wg dg).1 [(q, .inr (5, [.int (mRead X mz PD kind al U fl it wr ma wg dg).2.1, .ref tx, .int (nI (mRead X mz PD kind al U fl it wr ma wg dg).2.2.1), .int (mRead X mz PD kind al U fl it wr ma wg dg).2.2.2.1, .int (bI (mRead X mz PD kind al U fl it wr ma wg dg).2.2.2.2.1), .long (mRead X mz PD kind al U fl it wr ma wg dg).2.2.2.2.2.1, .ref pt, .int (nI (mRead X mz PD kind al U fl it wr ma wg dg).2.2.2.2.2.2.1), .ref ot, .int (nI (mRead X mz PD kind al U fl it wr ma wg dg).2.2.2.2.2.2.2.1), .int (nI kz), .ref ka, .ref kd, .ref kp, .int (nI (mRead X mz PD kind al U fl it wr ma wg dg).2.2.2.2.2.2.2.2.1), .int (bI (mRead X mz PD kind al U fl it wr ma wg dg).2.2.2.2.2.2.2.2.2.1)])), (tx, .inl (c1, 256, .inl X)), (pt, .inl (c2, 256, .inl (mRead X mz PD kind al U fl it wr ma wg dg).2.2.2.2.2.2.2.2.2.2.1)), (ot, .inl (c3, 256, .inl (mRead X mz PD kind al U fl it wr ma wg dg).2.2.2.2.2.2.2.2.2.2.2))] A)) (cc := cX5_read) (maxL := 2) (ret := (some .int)) (by decide) rfl (Nat.le_of_ble_eq_true rfl) ?_
  intro p e s m below meth c A ls Cx hA hG hK hP hD hS hl
  obtain ⟨hx, hb, hr, hml, hown, hts, hlocks, hnm⟩ := id Cx
  have hl : lv_has ls 2 [(0, .ref q), (1, .int kind)] := hl
  refine lv_aload_n hx hb dX5_read_0 rfl (lv_at hl 0 rfl) ?_
  refine lv_iload_n hx hb dX5_read_1 rfl (lv_at hl 1 rfl) ?_
  refine lv_if_lt (tgt := 10) hx hb dX5_read_2 (by decide) (fun c_2 => ?_) (fun c_2 => ?_)
  · refine lv_iconst (v := 1) hx hb dX5_read_10 (by decide) ?_
    refine lv_goto (tgt := 15) hx hb dX5_read_11 (by decide) ?_
    refine va_put (D := (dC, dI)) (ci := 5) (v := .int 1) (ty := .int) (C := RX5) (T := TX5) (N := 16) hx hb hts kin_5 tyX5 tyX5_ok nmX5 hown hK hP hD hS 0 rfl rfl 0 (by decide) (hts _ (kcm kwm_204)) (fun _ h9 => h9) rfl (by decide +kernel) rfl rfl (Nat.le_of_ble_eq_true rfl) dX5_read_15 (fun H locs hP hD hS => ?_)
    have hP : va_P (dC, dI) kcl [(q, .inr (5, [.int 1, .ref tx, .int (nI mz), .int fl, .int (bI it), .long al, .ref pt, .int (nI dg), .ref ot, .int (nI wr), .int (nI kz), .ref ka, .ref kd, .ref kp, .int (nI ma), .int (bI wg)])), (tx, .inl (c1, 256, .inl X)), (pt, .inl (c2, 256, .inl PD)), (ot, .inl (c3, 256, .inl U))] H := hP
    have hD : va_D A [(q, .inr (5, [.int 1, .ref tx, .int (nI mz), .int fl, .int (bI it), .long al, .ref pt, .int (nI dg), .ref ot, .int (nI wr), .int (nI kz), .ref ka, .ref kd, .ref kp, .int (nI ma), .int (bI wg)])), (tx, .inl (c1, 256, .inl X)), (pt, .inl (c2, 256, .inl PD)), (ot, .inl (c3, 256, .inl U))] := hD
    refine lv_aload_n hx hb dX5_read_18 rfl (lv_at hl 0 rfl) ?_
    refine va_get (D := (dC, dI)) (ci := 5) (v := .int 1) (C := RX5) (T := TX5) (N := 16) hx hb hts kin_5 hown hK hP 0 rfl rfl 0 (by decide) (hts _ (kcm kwm_204)) (fun _ h9 => h9) rfl dX5_read_19 ?_
    refine lv_if_le (tgt := 27) hx hb dX5_read_22 (by decide) (fun c_22 => ?_) (fun c_22 => ?_)
    · exact absurd c_22 (by decide)
    · refine lv_iconst (v := 0) hx hb dX5_read_25 (by decide) ?_
      have hF9 : mRead X mz PD kind al U fl it wr ma wg dg = (0, 1, mz, fl, it, al, dg, wr, ma, wg, PD, U) := by
        first | (simp only [mRead, if_pos c_2]; done) | rfl
      have hP9 : va_P (dC, dI) kcl [(q, .inr (5, [.int (mRead X mz PD kind al U fl it wr ma wg dg).2.1, .ref tx, .int (nI (mRead X mz PD kind al U fl it wr ma wg dg).2.2.1), .int (mRead X mz PD kind al U fl it wr ma wg dg).2.2.2.1, .int (bI (mRead X mz PD kind al U fl it wr ma wg dg).2.2.2.2.1), .long (mRead X mz PD kind al U fl it wr ma wg dg).2.2.2.2.2.1, .ref pt, .int (nI (mRead X mz PD kind al U fl it wr ma wg dg).2.2.2.2.2.2.1), .ref ot, .int (nI (mRead X mz PD kind al U fl it wr ma wg dg).2.2.2.2.2.2.2.1), .int (nI kz), .ref ka, .ref kd, .ref kp, .int (nI (mRead X mz PD kind al U fl it wr ma wg dg).2.2.2.2.2.2.2.2.1), .int (bI (mRead X mz PD kind al U fl it wr ma wg dg).2.2.2.2.2.2.2.2.2.1)])), (tx, .inl (c1, 256, .inl X)), (pt, .inl (c2, 256, .inl (mRead X mz PD kind al U fl it wr ma wg dg).2.2.2.2.2.2.2.2.2.2.1)), (ot, .inl (c3, 256, .inl (mRead X mz PD kind al U fl it wr ma wg dg).2.2.2.2.2.2.2.2.2.2.2))] H := by
        try rw [hF9]
        exact hP.sub [0, 1, 2, 3] rfl
      have hD9 : va_D A [(q, .inr (5, [.int (mRead X mz PD kind al U fl it wr ma wg dg).2.1, .ref tx, .int (nI (mRead X mz PD kind al U fl it wr ma wg dg).2.2.1), .int (mRead X mz PD kind al U fl it wr ma wg dg).2.2.2.1, .int (bI (mRead X mz PD kind al U fl it wr ma wg dg).2.2.2.2.1), .long (mRead X mz PD kind al U fl it wr ma wg dg).2.2.2.2.2.1, .ref pt, .int (nI (mRead X mz PD kind al U fl it wr ma wg dg).2.2.2.2.2.2.1), .ref ot, .int (nI (mRead X mz PD kind al U fl it wr ma wg dg).2.2.2.2.2.2.2.1), .int (nI kz), .ref ka, .ref kd, .ref kp, .int (nI (mRead X mz PD kind al U fl it wr ma wg dg).2.2.2.2.2.2.2.2.1), .int (bI (mRead X mz PD kind al U fl it wr ma wg dg).2.2.2.2.2.2.2.2.2.1)])), (tx, .inl (c1, 256, .inl X)), (pt, .inl (c2, 256, .inl (mRead X mz PD kind al U fl it wr ma wg dg).2.2.2.2.2.2.2.2.2.2.1)), (ot, .inl (c3, 256, .inl (mRead X mz PD kind al U fl it wr ma wg dg).2.2.2.2.2.2.2.2.2.2.2))] := by
        try rw [hF9]
        exact hD.sub [0, 1, 2, 3] (by decide) rfl
      have hv9 : (0 : Int32) = (mRead X mz PD kind al U fl it wr ma wg dg).1 := by
        try rw [hF9]
        try rfl
      exact kc_iret hx hb hr hlocks hv9 hP9 hD9 hS dX5_read_26
  · refine lv_iload_n hx hb dX5_read_5 rfl (lv_at hl 1 rfl) ?_
    refine lv_iconst (v := 1) hx hb dX5_read_6 (by decide) ?_
    refine lv_icmp_le (tgt := 14) hx hb dX5_read_7 (by decide) (fun c_7 => ?_) (fun c_7 => ?_)
    · refine lv_iconst (v := 0) hx hb dX5_read_14 (by decide) ?_
      refine va_put (D := (dC, dI)) (ci := 5) (v := .int 0) (ty := .int) (C := RX5) (T := TX5) (N := 16) hx hb hts kin_5 tyX5 tyX5_ok nmX5 hown hK hP hD hS 0 rfl rfl 0 (by decide) (hts _ (kcm kwm_204)) (fun _ h9 => h9) rfl (by decide +kernel) rfl rfl (Nat.le_of_ble_eq_true rfl) dX5_read_15 (fun H locs hP hD hS => ?_)
      have hP : va_P (dC, dI) kcl [(q, .inr (5, [.int 0, .ref tx, .int (nI mz), .int fl, .int (bI it), .long al, .ref pt, .int (nI dg), .ref ot, .int (nI wr), .int (nI kz), .ref ka, .ref kd, .ref kp, .int (nI ma), .int (bI wg)])), (tx, .inl (c1, 256, .inl X)), (pt, .inl (c2, 256, .inl PD)), (ot, .inl (c3, 256, .inl U))] H := hP
      have hD : va_D A [(q, .inr (5, [.int 0, .ref tx, .int (nI mz), .int fl, .int (bI it), .long al, .ref pt, .int (nI dg), .ref ot, .int (nI wr), .int (nI kz), .ref ka, .ref kd, .ref kp, .int (nI ma), .int (bI wg)])), (tx, .inl (c1, 256, .inl X)), (pt, .inl (c2, 256, .inl PD)), (ot, .inl (c3, 256, .inl U))] := hD
      refine lv_aload_n hx hb dX5_read_18 rfl (lv_at hl 0 rfl) ?_
      refine va_get (D := (dC, dI)) (ci := 5) (v := .int 0) (C := RX5) (T := TX5) (N := 16) hx hb hts kin_5 hown hK hP 0 rfl rfl 0 (by decide) (hts _ (kcm kwm_204)) (fun _ h9 => h9) rfl dX5_read_19 ?_
      refine lv_if_le (tgt := 27) hx hb dX5_read_22 (by decide) (fun c_22 => ?_) (fun c_22 => ?_)
      · refine lv_aload_n hx hb dX5_read_27 rfl (lv_at hl 0 rfl) ?_
        refine lv_aload_n hx hb dX5_read_28 rfl (lv_at hl 0 rfl) ?_
        refine lv_iload_n hx hb dX5_read_29 rfl (lv_at hl 1 rfl) ?_
        have hPc := hP.sub (ws' := [(q, .inr (5, [.int 0, .ref tx, .int (nI mz), .int fl, .int (bI it), .long al, .ref pt, .int (nI dg), .ref ot, .int (nI wr), .int (nI kz), .ref ka, .ref kd, .ref kp, .int (nI ma), .int (bI wg)])), (tx, .inl (c1, 256, .inl X)), (pt, .inl (c2, 256, .inl PD))]) [0, 1, 2] rfl
        have hDc := hD.sub (ws' := [(q, .inr (5, [.int 0, .ref tx, .int (nI mz), .int fl, .int (bI it), .long al, .ref pt, .int (nI dg), .ref ot, .int (nI wr), .int (nI kz), .ref ka, .ref kd, .ref kp, .int (nI ma), .int (bI wg)])), (tx, .inl (c1, 256, .inl X)), (pt, .inl (c2, 256, .inl PD))]) [0, 1, 2] (by decide) rfl
        have hKc := hK.sub (tys' := [(c1, .int), (c2, .int)]) [0, 1] rfl
        have hFc := va_free (wc := [(q, .inr (5, [.int 0, .ref tx, .int (nI mz), .int fl, .int (bI it), .long al, .ref pt, .int (nI dg), .ref ot, .int (nI wr), .int (nI kz), .ref ka, .ref kd, .ref kp, .int (nI ma), .int (bI wg)])), (tx, .inl (c1, 256, .inl X)), (pt, .inl (c2, 256, .inl PD))]) hD hS hA [0, 1, 2] rfl
        refine kc_calli (val := (mAll X mz PD kind al).1) (wr := [(ot, .inl (c3, 256, .inl U))]) (w1 := [(q, .inr (5, [.int 0, .ref tx, .int (nI mz), .int fl, .int (bI it), .long (mAll X mz PD kind al).2.1, .ref pt, .int (nI (mAll X mz PD kind al).2.2.2.2.2), .ref ot, .int (nI wr), .int (nI kz), .ref ka, .ref kd, .ref kp, .int (nI (mAll X mz PD kind al).2.2.1), .int (bI (mAll X mz PD kind al).2.2.2.1)])), (tx, .inl (c1, 256, .inl X)), (pt, .inl (c2, 256, .inl (mAll X mz PD kind al).2.2.2.2.1))]) (va_runV (As := [.int kind]) (rest := [.ref q]) ⟨hx, hb, hml, hown, hts⟩ (m_readAll l dC dI st H.size q 0 tx mz fl it al pt dg ot wr kz ka kd kp ma wg c1 X c2 PD kind hz) (cwV 1 hts (kwV kwm_281 kwm_282 kwm_283 kwm_203 kwm_280) rfl rfl rfl (by decide +kernel) ⟨Nat.le_of_ble_eq_true rfl, Nat.le_of_ble_eq_true rfl⟩) ⟨kc_blind, va_recv hKc hPc (ci := 5) (q0 := 0) rfl rfl, kc_pre hG hS hFc hKc hPc hDc⟩ rfl rfl hl.1 rfl (lv_room (Nat.le_of_ble_eq_true rfl)) dX5_read_30 ⟨Nat.le_of_ble_eq_true rfl, Nat.le_of_ble_eq_true rfl⟩) hP hD hS hFc [0, 1, 2] [3] rfl rfl (by decide) (by decide) (fun H locs hP hD hS => ?_)
        have hP : va_P (dC, dI) kcl [(ot, .inl (c3, 256, .inl U)), (q, .inr (5, [.int 0, .ref tx, .int (nI mz), .int fl, .int (bI it), .long (mAll X mz PD kind al).2.1, .ref pt, .int (nI (mAll X mz PD kind al).2.2.2.2.2), .ref ot, .int (nI wr), .int (nI kz), .ref ka, .ref kd, .ref kp, .int (nI (mAll X mz PD kind al).2.2.1), .int (bI (mAll X mz PD kind al).2.2.2.1)])), (tx, .inl (c1, 256, .inl X)), (pt, .inl (c2, 256, .inl (mAll X mz PD kind al).2.2.2.2.1))] H := hP
        have hD : va_D A [(ot, .inl (c3, 256, .inl U)), (q, .inr (5, [.int 0, .ref tx, .int (nI mz), .int fl, .int (bI it), .long (mAll X mz PD kind al).2.1, .ref pt, .int (nI (mAll X mz PD kind al).2.2.2.2.2), .ref ot, .int (nI wr), .int (nI kz), .ref ka, .ref kd, .ref kp, .int (nI (mAll X mz PD kind al).2.2.1), .int (bI (mAll X mz PD kind al).2.2.2.1)])), (tx, .inl (c1, 256, .inl X)), (pt, .inl (c2, 256, .inl (mAll X mz PD kind al).2.2.2.2.1))] := hD
        generalize e_30 : mAll X mz PD kind al = v_30 at hP hD ⊢
        have hP : va_P (dC, dI) kcl [(ot, .inl (c3, 256, .inl U)), (q, .inr (5, [.int 0, .ref tx, .int (nI mz), .int fl, .int (bI it), .long v_30.2.1, .ref pt, .int (nI v_30.2.2.2.2.2), .ref ot, .int (nI wr), .int (nI kz), .ref ka, .ref kd, .ref kp, .int (nI v_30.2.2.1), .int (bI v_30.2.2.2.1)])), (tx, .inl (c1, 256, .inl X)), (pt, .inl (c2, 256, .inl v_30.2.2.2.2.1))] H := hP
        have hD : va_D A [(ot, .inl (c3, 256, .inl U)), (q, .inr (5, [.int 0, .ref tx, .int (nI mz), .int fl, .int (bI it), .long v_30.2.1, .ref pt, .int (nI v_30.2.2.2.2.2), .ref ot, .int (nI wr), .int (nI kz), .ref ka, .ref kd, .ref kp, .int (nI v_30.2.2.1), .int (bI v_30.2.2.2.1)])), (tx, .inl (c1, 256, .inl X)), (pt, .inl (c2, 256, .inl v_30.2.2.2.2.1))] := hD
        rw [e_30] at hR
        refine va_put (D := (dC, dI)) (ci := 5) (v := .int v_30.1) (ty := .int) (C := RX5) (T := TX5) (N := 16) hx hb hts kin_5 tyX5 tyX5_ok nmX5 hown hK hP hD hS 1 rfl rfl 3 (by decide) (hts _ (kcm kwm_288)) (fun _ h9 => h9) rfl (by decide +kernel) rfl rfl (Nat.le_of_ble_eq_true rfl) dX5_read_33 (fun H locs hP hD hS => ?_)
        have hP : va_P (dC, dI) kcl [(ot, .inl (c3, 256, .inl U)), (q, .inr (5, [.int 0, .ref tx, .int (nI mz), .int v_30.1, .int (bI it), .long v_30.2.1, .ref pt, .int (nI v_30.2.2.2.2.2), .ref ot, .int (nI wr), .int (nI kz), .ref ka, .ref kd, .ref kp, .int (nI v_30.2.2.1), .int (bI v_30.2.2.2.1)])), (tx, .inl (c1, 256, .inl X)), (pt, .inl (c2, 256, .inl v_30.2.2.2.2.1))] H := hP
        have hD : va_D A [(ot, .inl (c3, 256, .inl U)), (q, .inr (5, [.int 0, .ref tx, .int (nI mz), .int v_30.1, .int (bI it), .long v_30.2.1, .ref pt, .int (nI v_30.2.2.2.2.2), .ref ot, .int (nI wr), .int (nI kz), .ref ka, .ref kd, .ref kp, .int (nI v_30.2.2.1), .int (bI v_30.2.2.2.1)])), (tx, .inl (c1, 256, .inl X)), (pt, .inl (c2, 256, .inl v_30.2.2.2.2.1))] := hD
        refine lv_aload_n hx hb dX5_read_36 rfl (lv_at hl 0 rfl) ?_
        refine lv_iconst (v := 0) hx hb dX5_read_37 (by decide) ?_
        refine va_put (D := (dC, dI)) (ci := 5) (v := .int 0) (ty := .int) (C := RX5) (T := TX5) (N := 16) hx hb hts kin_5 tyX5 tyX5_ok nmX5 hown hK hP hD hS 1 rfl rfl 2 (by decide) (hts _ (kcm kwm_206)) (fun _ h9 => h9) rfl (by decide +kernel) rfl rfl (Nat.le_of_ble_eq_true rfl) dX5_read_38 (fun H locs hP hD hS => ?_)
        have hP : va_P (dC, dI) kcl [(ot, .inl (c3, 256, .inl U)), (q, .inr (5, [.int 0, .ref tx, .int (nI 0), .int v_30.1, .int (bI it), .long v_30.2.1, .ref pt, .int (nI v_30.2.2.2.2.2), .ref ot, .int (nI wr), .int (nI kz), .ref ka, .ref kd, .ref kp, .int (nI v_30.2.2.1), .int (bI v_30.2.2.2.1)])), (tx, .inl (c1, 256, .inl X)), (pt, .inl (c2, 256, .inl v_30.2.2.2.2.1))] H := hP
        have hD : va_D A [(ot, .inl (c3, 256, .inl U)), (q, .inr (5, [.int 0, .ref tx, .int (nI 0), .int v_30.1, .int (bI it), .long v_30.2.1, .ref pt, .int (nI v_30.2.2.2.2.2), .ref ot, .int (nI wr), .int (nI kz), .ref ka, .ref kd, .ref kp, .int (nI v_30.2.2.1), .int (bI v_30.2.2.2.1)])), (tx, .inl (c1, 256, .inl X)), (pt, .inl (c2, 256, .inl v_30.2.2.2.2.1))] := hD
        refine lv_aload_n hx hb dX5_read_41 rfl (lv_at hl 0 rfl) ?_
        refine lv_iconst (v := 0) hx hb dX5_read_42 (by decide) ?_
        refine va_put (D := (dC, dI)) (ci := 5) (v := .int 0) (ty := .int) (C := RX5) (T := TX5) (N := 16) hx hb hts kin_5 tyX5 tyX5_ok nmX5 hown hK hP hD hS 1 rfl rfl 9 (by decide) (hts _ (kcm kwm_271)) (fun _ h9 => h9) rfl (by decide +kernel) rfl rfl (Nat.le_of_ble_eq_true rfl) dX5_read_43 (fun H locs hP hD hS => ?_)
        have hP : va_P (dC, dI) kcl [(ot, .inl (c3, 256, .inl U)), (q, .inr (5, [.int 0, .ref tx, .int (nI 0), .int v_30.1, .int (bI it), .long v_30.2.1, .ref pt, .int (nI v_30.2.2.2.2.2), .ref ot, .int (nI 0), .int (nI kz), .ref ka, .ref kd, .ref kp, .int (nI v_30.2.2.1), .int (bI v_30.2.2.2.1)])), (tx, .inl (c1, 256, .inl X)), (pt, .inl (c2, 256, .inl v_30.2.2.2.2.1))] H := hP
        have hD : va_D A [(ot, .inl (c3, 256, .inl U)), (q, .inr (5, [.int 0, .ref tx, .int (nI 0), .int v_30.1, .int (bI it), .long v_30.2.1, .ref pt, .int (nI v_30.2.2.2.2.2), .ref ot, .int (nI 0), .int (nI kz), .ref ka, .ref kd, .ref kp, .int (nI v_30.2.2.1), .int (bI v_30.2.2.2.1)])), (tx, .inl (c1, 256, .inl X)), (pt, .inl (c2, 256, .inl v_30.2.2.2.2.1))] := hD
        refine lv_aload_n hx hb dX5_read_46 rfl (lv_at hl 0 rfl) ?_
        refine lv_aload_n hx hb dX5_read_47 rfl (lv_at hl 0 rfl) ?_
        refine va_get (D := (dC, dI)) (ci := 5) (v := .int v_30.1) (C := RX5) (T := TX5) (N := 16) hx hb hts kin_5 hown hK hP 1 rfl rfl 3 (by decide) (hts _ (kcm kwm_288)) (fun _ h9 => h9) rfl dX5_read_48 ?_
        refine lv_if_ne (tgt := 58) hx hb dX5_read_51 (by decide) (fun c_51 => ?_) (fun c_51 => ?_)
        · refine lv_iconst (v := 0) hx hb dX5_read_58 (by decide) ?_
          refine va_put (D := (dC, dI)) (ci := 5) (v := .int 0) (ty := .boolean) (C := RX5) (T := TX5) (N := 16) hx hb hts kin_5 tyX5 tyX5_ok nmX5 hown hK hP hD hS 1 rfl rfl 4 (by decide) (hts _ (kcm kwm_289)) (fun _ h9 => h9) rfl (by decide +kernel) rfl rfl (Nat.le_of_ble_eq_true rfl) dX5_read_59 (fun H locs hP hD hS => ?_)
          have hP : va_P (dC, dI) kcl [(ot, .inl (c3, 256, .inl U)), (q, .inr (5, [.int 0, .ref tx, .int (nI 0), .int v_30.1, .int (bI false), .long v_30.2.1, .ref pt, .int (nI v_30.2.2.2.2.2), .ref ot, .int (nI 0), .int (nI kz), .ref ka, .ref kd, .ref kp, .int (nI v_30.2.2.1), .int (bI v_30.2.2.2.1)])), (tx, .inl (c1, 256, .inl X)), (pt, .inl (c2, 256, .inl v_30.2.2.2.2.1))] H := hP
          have hD : va_D A [(ot, .inl (c3, 256, .inl U)), (q, .inr (5, [.int 0, .ref tx, .int (nI 0), .int v_30.1, .int (bI false), .long v_30.2.1, .ref pt, .int (nI v_30.2.2.2.2.2), .ref ot, .int (nI 0), .int (nI kz), .ref ka, .ref kd, .ref kp, .int (nI v_30.2.2.1), .int (bI v_30.2.2.2.1)])), (tx, .inl (c1, 256, .inl X)), (pt, .inl (c2, 256, .inl v_30.2.2.2.2.1))] := hD
          refine lv_aload_n hx hb dX5_read_62 rfl (lv_at hl 0 rfl) ?_
          refine lv_aload_n hx hb dX5_read_63 rfl (lv_at hl 0 rfl) ?_
          refine va_get (D := (dC, dI)) (ci := 5) (v := .int (bI false)) (C := RX5) (T := TX5) (N := 16) hx hb hts kin_5 hown hK hP 1 rfl rfl 4 (by decide) (hts _ (kcm kwm_289)) (fun _ h9 => h9) rfl dX5_read_64 ?_
          refine lv_if_eq (tgt := 74) hx hb dX5_read_67 (by decide) (fun c_67 => ?_) (fun c_67 => ?_)
          · refine lv_iconst (v := 1) hx hb dX5_read_74 (by decide) ?_
            refine va_put (D := (dC, dI)) (ci := 5) (v := .int 1) (ty := .int) (C := RX5) (T := TX5) (N := 16) hx hb hts kin_5 tyX5 tyX5_ok nmX5 hown hK hP hD hS 1 rfl rfl 0 (by decide) (hts _ (kcm kwm_204)) (fun _ h9 => h9) rfl (by decide +kernel) rfl rfl (Nat.le_of_ble_eq_true rfl) dX5_read_75 (fun H locs hP hD hS => ?_)
            have hP : va_P (dC, dI) kcl [(ot, .inl (c3, 256, .inl U)), (q, .inr (5, [.int 1, .ref tx, .int (nI 0), .int v_30.1, .int (bI false), .long v_30.2.1, .ref pt, .int (nI v_30.2.2.2.2.2), .ref ot, .int (nI 0), .int (nI kz), .ref ka, .ref kd, .ref kp, .int (nI v_30.2.2.1), .int (bI v_30.2.2.2.1)])), (tx, .inl (c1, 256, .inl X)), (pt, .inl (c2, 256, .inl v_30.2.2.2.2.1))] H := hP
            have hD : va_D A [(ot, .inl (c3, 256, .inl U)), (q, .inr (5, [.int 1, .ref tx, .int (nI 0), .int v_30.1, .int (bI false), .long v_30.2.1, .ref pt, .int (nI v_30.2.2.2.2.2), .ref ot, .int (nI 0), .int (nI kz), .ref ka, .ref kd, .ref kp, .int (nI v_30.2.2.1), .int (bI v_30.2.2.2.1)])), (tx, .inl (c1, 256, .inl X)), (pt, .inl (c2, 256, .inl v_30.2.2.2.2.1))] := hD
            refine lv_aload_n hx hb dX5_read_78 rfl (lv_at hl 0 rfl) ?_
            refine va_get (D := (dC, dI)) (ci := 5) (v := .int (bI false)) (C := RX5) (T := TX5) (N := 16) hx hb hts kin_5 hown hK hP 1 rfl rfl 4 (by decide) (hts _ (kcm kwm_289)) (fun _ h9 => h9) rfl dX5_read_79 ?_
            refine lv_if_eq (tgt := 90) hx hb dX5_read_82 (by decide) (fun c_82 => ?_) (fun c_82 => ?_)
            · refine lv_aload_n hx hb dX5_read_90 rfl (lv_at hl 0 rfl) ?_
              refine va_get (D := (dC, dI)) (ci := 5) (v := .int (nI 0)) (C := RX5) (T := TX5) (N := 16) hx hb hts kin_5 hown hK hP 1 rfl rfl 9 (by decide) (hts _ (kcm kwm_271)) (fun _ h9 => h9) rfl dX5_read_91 ?_
              have hF9 : mRead X mz PD kind al U fl it wr ma wg dg = (nI 0, 1, 0, v_30.1, false, v_30.2.1, v_30.2.2.2.2.2, 0, v_30.2.2.1, v_30.2.2.2.1, v_30.2.2.2.2.1, U) := by
                subst e_30
                first | (simp only [mRead, if_neg c_2, if_pos c_7, if_neg c_51]; done) | rfl
              have hP9 : va_P (dC, dI) kcl [(q, .inr (5, [.int (mRead X mz PD kind al U fl it wr ma wg dg).2.1, .ref tx, .int (nI (mRead X mz PD kind al U fl it wr ma wg dg).2.2.1), .int (mRead X mz PD kind al U fl it wr ma wg dg).2.2.2.1, .int (bI (mRead X mz PD kind al U fl it wr ma wg dg).2.2.2.2.1), .long (mRead X mz PD kind al U fl it wr ma wg dg).2.2.2.2.2.1, .ref pt, .int (nI (mRead X mz PD kind al U fl it wr ma wg dg).2.2.2.2.2.2.1), .ref ot, .int (nI (mRead X mz PD kind al U fl it wr ma wg dg).2.2.2.2.2.2.2.1), .int (nI kz), .ref ka, .ref kd, .ref kp, .int (nI (mRead X mz PD kind al U fl it wr ma wg dg).2.2.2.2.2.2.2.2.1), .int (bI (mRead X mz PD kind al U fl it wr ma wg dg).2.2.2.2.2.2.2.2.2.1)])), (tx, .inl (c1, 256, .inl X)), (pt, .inl (c2, 256, .inl (mRead X mz PD kind al U fl it wr ma wg dg).2.2.2.2.2.2.2.2.2.2.1)), (ot, .inl (c3, 256, .inl (mRead X mz PD kind al U fl it wr ma wg dg).2.2.2.2.2.2.2.2.2.2.2))] H := by
                try rw [hF9]
                exact hP.sub [1, 2, 3, 0] rfl
              have hD9 : va_D A [(q, .inr (5, [.int (mRead X mz PD kind al U fl it wr ma wg dg).2.1, .ref tx, .int (nI (mRead X mz PD kind al U fl it wr ma wg dg).2.2.1), .int (mRead X mz PD kind al U fl it wr ma wg dg).2.2.2.1, .int (bI (mRead X mz PD kind al U fl it wr ma wg dg).2.2.2.2.1), .long (mRead X mz PD kind al U fl it wr ma wg dg).2.2.2.2.2.1, .ref pt, .int (nI (mRead X mz PD kind al U fl it wr ma wg dg).2.2.2.2.2.2.1), .ref ot, .int (nI (mRead X mz PD kind al U fl it wr ma wg dg).2.2.2.2.2.2.2.1), .int (nI kz), .ref ka, .ref kd, .ref kp, .int (nI (mRead X mz PD kind al U fl it wr ma wg dg).2.2.2.2.2.2.2.2.1), .int (bI (mRead X mz PD kind al U fl it wr ma wg dg).2.2.2.2.2.2.2.2.2.1)])), (tx, .inl (c1, 256, .inl X)), (pt, .inl (c2, 256, .inl (mRead X mz PD kind al U fl it wr ma wg dg).2.2.2.2.2.2.2.2.2.2.1)), (ot, .inl (c3, 256, .inl (mRead X mz PD kind al U fl it wr ma wg dg).2.2.2.2.2.2.2.2.2.2.2))] := by
                try rw [hF9]
                exact hD.sub [1, 2, 3, 0] (by decide) rfl
              have hv9 : nI 0 = (mRead X mz PD kind al U fl it wr ma wg dg).1 := by
                try rw [hF9]
                try rfl
              exact kc_iret hx hb hr hlocks hv9 hP9 hD9 hS dX5_read_94
            · exact absurd (by decide) c_82
          · exact absurd (by decide) c_67
        · refine lv_iconst (v := 1) hx hb dX5_read_54 (by decide) ?_
          refine lv_goto (tgt := 59) hx hb dX5_read_55 (by decide) ?_
          refine va_put (D := (dC, dI)) (ci := 5) (v := .int 1) (ty := .boolean) (C := RX5) (T := TX5) (N := 16) hx hb hts kin_5 tyX5 tyX5_ok nmX5 hown hK hP hD hS 1 rfl rfl 4 (by decide) (hts _ (kcm kwm_289)) (fun _ h9 => h9) rfl (by decide +kernel) rfl rfl (Nat.le_of_ble_eq_true rfl) dX5_read_59 (fun H locs hP hD hS => ?_)
          have hP : va_P (dC, dI) kcl [(ot, .inl (c3, 256, .inl U)), (q, .inr (5, [.int 0, .ref tx, .int (nI 0), .int v_30.1, .int (bI true), .long v_30.2.1, .ref pt, .int (nI v_30.2.2.2.2.2), .ref ot, .int (nI 0), .int (nI kz), .ref ka, .ref kd, .ref kp, .int (nI v_30.2.2.1), .int (bI v_30.2.2.2.1)])), (tx, .inl (c1, 256, .inl X)), (pt, .inl (c2, 256, .inl v_30.2.2.2.2.1))] H := hP
          have hD : va_D A [(ot, .inl (c3, 256, .inl U)), (q, .inr (5, [.int 0, .ref tx, .int (nI 0), .int v_30.1, .int (bI true), .long v_30.2.1, .ref pt, .int (nI v_30.2.2.2.2.2), .ref ot, .int (nI 0), .int (nI kz), .ref ka, .ref kd, .ref kp, .int (nI v_30.2.2.1), .int (bI v_30.2.2.2.1)])), (tx, .inl (c1, 256, .inl X)), (pt, .inl (c2, 256, .inl v_30.2.2.2.2.1))] := hD
          refine lv_aload_n hx hb dX5_read_62 rfl (lv_at hl 0 rfl) ?_
          refine lv_aload_n hx hb dX5_read_63 rfl (lv_at hl 0 rfl) ?_
          refine va_get (D := (dC, dI)) (ci := 5) (v := .int (bI true)) (C := RX5) (T := TX5) (N := 16) hx hb hts kin_5 hown hK hP 1 rfl rfl 4 (by decide) (hts _ (kcm kwm_289)) (fun _ h9 => h9) rfl dX5_read_64 ?_
          refine lv_if_eq (tgt := 74) hx hb dX5_read_67 (by decide) (fun c_67 => ?_) (fun c_67 => ?_)
          · exact absurd c_67 (by decide)
          · refine lv_iconst (v := 0) hx hb dX5_read_70 (by decide) ?_
            refine lv_goto (tgt := 75) hx hb dX5_read_71 (by decide) ?_
            refine va_put (D := (dC, dI)) (ci := 5) (v := .int 0) (ty := .int) (C := RX5) (T := TX5) (N := 16) hx hb hts kin_5 tyX5 tyX5_ok nmX5 hown hK hP hD hS 1 rfl rfl 0 (by decide) (hts _ (kcm kwm_204)) (fun _ h9 => h9) rfl (by decide +kernel) rfl rfl (Nat.le_of_ble_eq_true rfl) dX5_read_75 (fun H locs hP hD hS => ?_)
            have hP : va_P (dC, dI) kcl [(ot, .inl (c3, 256, .inl U)), (q, .inr (5, [.int 0, .ref tx, .int (nI 0), .int v_30.1, .int (bI true), .long v_30.2.1, .ref pt, .int (nI v_30.2.2.2.2.2), .ref ot, .int (nI 0), .int (nI kz), .ref ka, .ref kd, .ref kp, .int (nI v_30.2.2.1), .int (bI v_30.2.2.2.1)])), (tx, .inl (c1, 256, .inl X)), (pt, .inl (c2, 256, .inl v_30.2.2.2.2.1))] H := hP
            have hD : va_D A [(ot, .inl (c3, 256, .inl U)), (q, .inr (5, [.int 0, .ref tx, .int (nI 0), .int v_30.1, .int (bI true), .long v_30.2.1, .ref pt, .int (nI v_30.2.2.2.2.2), .ref ot, .int (nI 0), .int (nI kz), .ref ka, .ref kd, .ref kp, .int (nI v_30.2.2.1), .int (bI v_30.2.2.2.1)])), (tx, .inl (c1, 256, .inl X)), (pt, .inl (c2, 256, .inl v_30.2.2.2.2.1))] := hD
            refine lv_aload_n hx hb dX5_read_78 rfl (lv_at hl 0 rfl) ?_
            refine va_get (D := (dC, dI)) (ci := 5) (v := .int (bI true)) (C := RX5) (T := TX5) (N := 16) hx hb hts kin_5 hown hK hP 1 rfl rfl 4 (by decide) (hts _ (kcm kwm_289)) (fun _ h9 => h9) rfl dX5_read_79 ?_
            refine lv_if_eq (tgt := 90) hx hb dX5_read_82 (by decide) (fun c_82 => ?_) (fun c_82 => ?_)
            · exact absurd c_82 (by decide)
            · refine lv_aload_n hx hb dX5_read_85 rfl (lv_at hl 0 rfl) ?_
              refine lv_iload_n hx hb dX5_read_86 rfl (lv_at hl 1 rfl) ?_
              have hPc := hP.sub (ws' := [(q, .inr (5, [.int 0, .ref tx, .int (nI 0), .int v_30.1, .int (bI true), .long v_30.2.1, .ref pt, .int (nI v_30.2.2.2.2.2), .ref ot, .int (nI 0), .int (nI kz), .ref ka, .ref kd, .ref kp, .int (nI v_30.2.2.1), .int (bI v_30.2.2.2.1)])), (pt, .inl (c2, 256, .inl v_30.2.2.2.2.1)), (ot, .inl (c3, 256, .inl U))]) [1, 3, 0] rfl
              have hDc := hD.sub (ws' := [(q, .inr (5, [.int 0, .ref tx, .int (nI 0), .int v_30.1, .int (bI true), .long v_30.2.1, .ref pt, .int (nI v_30.2.2.2.2.2), .ref ot, .int (nI 0), .int (nI kz), .ref ka, .ref kd, .ref kp, .int (nI v_30.2.2.1), .int (bI v_30.2.2.2.1)])), (pt, .inl (c2, 256, .inl v_30.2.2.2.2.1)), (ot, .inl (c3, 256, .inl U))]) [1, 3, 0] (by decide) rfl
              have hKc := hK.sub (tys' := [(c2, .int), (c3, .int)]) [1, 2] rfl
              have hFc := va_free (wc := [(q, .inr (5, [.int 0, .ref tx, .int (nI 0), .int v_30.1, .int (bI true), .long v_30.2.1, .ref pt, .int (nI v_30.2.2.2.2.2), .ref ot, .int (nI 0), .int (nI kz), .ref ka, .ref kd, .ref kp, .int (nI v_30.2.2.1), .int (bI v_30.2.2.2.1)])), (pt, .inl (c2, 256, .inl v_30.2.2.2.2.1)), (ot, .inl (c3, 256, .inl U))]) hD hS hA [1, 3, 0] rfl
              refine kc_callv (wr := [(tx, .inl (c1, 256, .inl X))]) (w1 := [(q, .inr (5, [.int 0, .ref tx, .int (nI 0), .int v_30.1, .int (bI true), .long v_30.2.1, .ref pt, .int (nI v_30.2.2.2.2.2), .ref ot, .int (nI (mWrite v_30.2.1 v_30.2.2.2.2.2 v_30.2.2.2.2.1 kind U 0).2), .int (nI kz), .ref ka, .ref kd, .ref kp, .int (nI v_30.2.2.1), .int (bI v_30.2.2.2.1)])), (pt, .inl (c2, 256, .inl v_30.2.2.2.2.1)), (ot, .inl (c3, 256, .inl (mWrite v_30.2.1 v_30.2.2.2.2.2 v_30.2.2.2.2.1 kind U 0).1))]) (va_runV (As := [.int kind]) (rest := []) ⟨hx, hb, hml, hown, hts⟩ (m_write l dC dI st H.size q 0 tx 0 v_30.1 true v_30.2.1 pt v_30.2.2.2.2.2 ot 0 kz ka kd kp v_30.2.2.1 v_30.2.2.2.1 c2 v_30.2.2.2.2.1 c3 U kind (hR c_51).1 (hR c_51).2.1 (hR c_51).2.2.1 (hR c_51).2.2.2 rfl) (cwV 1 hts (kwV kwm_285 kwm_286 kwm_287 kwm_203 kwm_284) rfl rfl rfl (by decide +kernel) ⟨Nat.le_of_ble_eq_true rfl, Nat.le_of_ble_eq_true rfl⟩) ⟨kc_blind, va_recv hKc hPc (ci := 5) (q0 := 0) rfl rfl, kc_pre hG hS hFc hKc hPc hDc⟩ rfl rfl hl.1 rfl (lv_room (Nat.le_of_ble_eq_true rfl)) dX5_read_87 ⟨Nat.le_of_ble_eq_true rfl, Nat.le_of_ble_eq_true rfl⟩) hP hD hS hFc [1, 3, 0] [2] rfl rfl (by decide) (by decide) (fun H locs hP hD hS => ?_)
              have hP : va_P (dC, dI) kcl [(tx, .inl (c1, 256, .inl X)), (q, .inr (5, [.int 0, .ref tx, .int (nI 0), .int v_30.1, .int (bI true), .long v_30.2.1, .ref pt, .int (nI v_30.2.2.2.2.2), .ref ot, .int (nI (mWrite v_30.2.1 v_30.2.2.2.2.2 v_30.2.2.2.2.1 kind U 0).2), .int (nI kz), .ref ka, .ref kd, .ref kp, .int (nI v_30.2.2.1), .int (bI v_30.2.2.2.1)])), (pt, .inl (c2, 256, .inl v_30.2.2.2.2.1)), (ot, .inl (c3, 256, .inl (mWrite v_30.2.1 v_30.2.2.2.2.2 v_30.2.2.2.2.1 kind U 0).1))] H := hP
              have hD : va_D A [(tx, .inl (c1, 256, .inl X)), (q, .inr (5, [.int 0, .ref tx, .int (nI 0), .int v_30.1, .int (bI true), .long v_30.2.1, .ref pt, .int (nI v_30.2.2.2.2.2), .ref ot, .int (nI (mWrite v_30.2.1 v_30.2.2.2.2.2 v_30.2.2.2.2.1 kind U 0).2), .int (nI kz), .ref ka, .ref kd, .ref kp, .int (nI v_30.2.2.1), .int (bI v_30.2.2.2.1)])), (pt, .inl (c2, 256, .inl v_30.2.2.2.2.1)), (ot, .inl (c3, 256, .inl (mWrite v_30.2.1 v_30.2.2.2.2.2 v_30.2.2.2.2.1 kind U 0).1))] := hD
              generalize e_87 : mWrite v_30.2.1 v_30.2.2.2.2.2 v_30.2.2.2.2.1 kind U 0 = v_87 at hP hD ⊢
              have hP : va_P (dC, dI) kcl [(tx, .inl (c1, 256, .inl X)), (q, .inr (5, [.int 0, .ref tx, .int (nI 0), .int v_30.1, .int (bI true), .long v_30.2.1, .ref pt, .int (nI v_30.2.2.2.2.2), .ref ot, .int (nI v_87.2), .int (nI kz), .ref ka, .ref kd, .ref kp, .int (nI v_30.2.2.1), .int (bI v_30.2.2.2.1)])), (pt, .inl (c2, 256, .inl v_30.2.2.2.2.1)), (ot, .inl (c3, 256, .inl v_87.1))] H := hP
              have hD : va_D A [(tx, .inl (c1, 256, .inl X)), (q, .inr (5, [.int 0, .ref tx, .int (nI 0), .int v_30.1, .int (bI true), .long v_30.2.1, .ref pt, .int (nI v_30.2.2.2.2.2), .ref ot, .int (nI v_87.2), .int (nI kz), .ref ka, .ref kd, .ref kp, .int (nI v_30.2.2.1), .int (bI v_30.2.2.2.1)])), (pt, .inl (c2, 256, .inl v_30.2.2.2.2.1)), (ot, .inl (c3, 256, .inl v_87.1))] := hD
              refine lv_aload_n hx hb dX5_read_90 rfl (lv_at hl 0 rfl) ?_
              refine va_get (D := (dC, dI)) (ci := 5) (v := .int (nI v_87.2)) (C := RX5) (T := TX5) (N := 16) hx hb hts kin_5 hown hK hP 1 rfl rfl 9 (by decide) (hts _ (kcm kwm_271)) (fun _ h9 => h9) rfl dX5_read_91 ?_
              have hF9 : mRead X mz PD kind al U fl it wr ma wg dg = (nI v_87.2, 0, 0, v_30.1, true, v_30.2.1, v_30.2.2.2.2.2, v_87.2, v_30.2.2.1, v_30.2.2.2.1, v_30.2.2.2.2.1, v_87.1) := by
                subst e_87
                subst e_30
                first | (simp only [mRead, if_neg c_2, if_pos c_7, if_pos c_51]; done) | rfl
              have hP9 : va_P (dC, dI) kcl [(q, .inr (5, [.int (mRead X mz PD kind al U fl it wr ma wg dg).2.1, .ref tx, .int (nI (mRead X mz PD kind al U fl it wr ma wg dg).2.2.1), .int (mRead X mz PD kind al U fl it wr ma wg dg).2.2.2.1, .int (bI (mRead X mz PD kind al U fl it wr ma wg dg).2.2.2.2.1), .long (mRead X mz PD kind al U fl it wr ma wg dg).2.2.2.2.2.1, .ref pt, .int (nI (mRead X mz PD kind al U fl it wr ma wg dg).2.2.2.2.2.2.1), .ref ot, .int (nI (mRead X mz PD kind al U fl it wr ma wg dg).2.2.2.2.2.2.2.1), .int (nI kz), .ref ka, .ref kd, .ref kp, .int (nI (mRead X mz PD kind al U fl it wr ma wg dg).2.2.2.2.2.2.2.2.1), .int (bI (mRead X mz PD kind al U fl it wr ma wg dg).2.2.2.2.2.2.2.2.2.1)])), (tx, .inl (c1, 256, .inl X)), (pt, .inl (c2, 256, .inl (mRead X mz PD kind al U fl it wr ma wg dg).2.2.2.2.2.2.2.2.2.2.1)), (ot, .inl (c3, 256, .inl (mRead X mz PD kind al U fl it wr ma wg dg).2.2.2.2.2.2.2.2.2.2.2))] H := by
                try rw [hF9]
                exact hP.sub [1, 0, 2, 3] rfl
              have hD9 : va_D A [(q, .inr (5, [.int (mRead X mz PD kind al U fl it wr ma wg dg).2.1, .ref tx, .int (nI (mRead X mz PD kind al U fl it wr ma wg dg).2.2.1), .int (mRead X mz PD kind al U fl it wr ma wg dg).2.2.2.1, .int (bI (mRead X mz PD kind al U fl it wr ma wg dg).2.2.2.2.1), .long (mRead X mz PD kind al U fl it wr ma wg dg).2.2.2.2.2.1, .ref pt, .int (nI (mRead X mz PD kind al U fl it wr ma wg dg).2.2.2.2.2.2.1), .ref ot, .int (nI (mRead X mz PD kind al U fl it wr ma wg dg).2.2.2.2.2.2.2.1), .int (nI kz), .ref ka, .ref kd, .ref kp, .int (nI (mRead X mz PD kind al U fl it wr ma wg dg).2.2.2.2.2.2.2.2.1), .int (bI (mRead X mz PD kind al U fl it wr ma wg dg).2.2.2.2.2.2.2.2.2.1)])), (tx, .inl (c1, 256, .inl X)), (pt, .inl (c2, 256, .inl (mRead X mz PD kind al U fl it wr ma wg dg).2.2.2.2.2.2.2.2.2.2.1)), (ot, .inl (c3, 256, .inl (mRead X mz PD kind al U fl it wr ma wg dg).2.2.2.2.2.2.2.2.2.2.2))] := by
                try rw [hF9]
                exact hD.sub [1, 0, 2, 3] (by decide) rfl
              have hv9 : nI v_87.2 = (mRead X mz PD kind al U fl it wr ma wg dg).1 := by
                try rw [hF9]
                try rfl
              exact kc_iret hx hb hr hlocks hv9 hP9 hD9 hS dX5_read_94
      · exact absurd (by decide) c_22
    · refine lv_iconst (v := 1) hx hb dX5_read_10 (by decide) ?_
      refine lv_goto (tgt := 15) hx hb dX5_read_11 (by decide) ?_
      refine va_put (D := (dC, dI)) (ci := 5) (v := .int 1) (ty := .int) (C := RX5) (T := TX5) (N := 16) hx hb hts kin_5 tyX5 tyX5_ok nmX5 hown hK hP hD hS 0 rfl rfl 0 (by decide) (hts _ (kcm kwm_204)) (fun _ h9 => h9) rfl (by decide +kernel) rfl rfl (Nat.le_of_ble_eq_true rfl) dX5_read_15 (fun H locs hP hD hS => ?_)
      have hP : va_P (dC, dI) kcl [(q, .inr (5, [.int 1, .ref tx, .int (nI mz), .int fl, .int (bI it), .long al, .ref pt, .int (nI dg), .ref ot, .int (nI wr), .int (nI kz), .ref ka, .ref kd, .ref kp, .int (nI ma), .int (bI wg)])), (tx, .inl (c1, 256, .inl X)), (pt, .inl (c2, 256, .inl PD)), (ot, .inl (c3, 256, .inl U))] H := hP
      have hD : va_D A [(q, .inr (5, [.int 1, .ref tx, .int (nI mz), .int fl, .int (bI it), .long al, .ref pt, .int (nI dg), .ref ot, .int (nI wr), .int (nI kz), .ref ka, .ref kd, .ref kp, .int (nI ma), .int (bI wg)])), (tx, .inl (c1, 256, .inl X)), (pt, .inl (c2, 256, .inl PD)), (ot, .inl (c3, 256, .inl U))] := hD
      refine lv_aload_n hx hb dX5_read_18 rfl (lv_at hl 0 rfl) ?_
      refine va_get (D := (dC, dI)) (ci := 5) (v := .int 1) (C := RX5) (T := TX5) (N := 16) hx hb hts kin_5 hown hK hP 0 rfl rfl 0 (by decide) (hts _ (kcm kwm_204)) (fun _ h9 => h9) rfl dX5_read_19 ?_
      refine lv_if_le (tgt := 27) hx hb dX5_read_22 (by decide) (fun c_22 => ?_) (fun c_22 => ?_)
      · exact absurd c_22 (by decide)
      · refine lv_iconst (v := 0) hx hb dX5_read_25 (by decide) ?_
        have hF9 : mRead X mz PD kind al U fl it wr ma wg dg = (0, 1, mz, fl, it, al, dg, wr, ma, wg, PD, U) := by
          first | (simp only [mRead, if_neg c_2, if_neg c_7]; done) | rfl
        have hP9 : va_P (dC, dI) kcl [(q, .inr (5, [.int (mRead X mz PD kind al U fl it wr ma wg dg).2.1, .ref tx, .int (nI (mRead X mz PD kind al U fl it wr ma wg dg).2.2.1), .int (mRead X mz PD kind al U fl it wr ma wg dg).2.2.2.1, .int (bI (mRead X mz PD kind al U fl it wr ma wg dg).2.2.2.2.1), .long (mRead X mz PD kind al U fl it wr ma wg dg).2.2.2.2.2.1, .ref pt, .int (nI (mRead X mz PD kind al U fl it wr ma wg dg).2.2.2.2.2.2.1), .ref ot, .int (nI (mRead X mz PD kind al U fl it wr ma wg dg).2.2.2.2.2.2.2.1), .int (nI kz), .ref ka, .ref kd, .ref kp, .int (nI (mRead X mz PD kind al U fl it wr ma wg dg).2.2.2.2.2.2.2.2.1), .int (bI (mRead X mz PD kind al U fl it wr ma wg dg).2.2.2.2.2.2.2.2.2.1)])), (tx, .inl (c1, 256, .inl X)), (pt, .inl (c2, 256, .inl (mRead X mz PD kind al U fl it wr ma wg dg).2.2.2.2.2.2.2.2.2.2.1)), (ot, .inl (c3, 256, .inl (mRead X mz PD kind al U fl it wr ma wg dg).2.2.2.2.2.2.2.2.2.2.2))] H := by
          try rw [hF9]
          exact hP.sub [0, 1, 2, 3] rfl
        have hD9 : va_D A [(q, .inr (5, [.int (mRead X mz PD kind al U fl it wr ma wg dg).2.1, .ref tx, .int (nI (mRead X mz PD kind al U fl it wr ma wg dg).2.2.1), .int (mRead X mz PD kind al U fl it wr ma wg dg).2.2.2.1, .int (bI (mRead X mz PD kind al U fl it wr ma wg dg).2.2.2.2.1), .long (mRead X mz PD kind al U fl it wr ma wg dg).2.2.2.2.2.1, .ref pt, .int (nI (mRead X mz PD kind al U fl it wr ma wg dg).2.2.2.2.2.2.1), .ref ot, .int (nI (mRead X mz PD kind al U fl it wr ma wg dg).2.2.2.2.2.2.2.1), .int (nI kz), .ref ka, .ref kd, .ref kp, .int (nI (mRead X mz PD kind al U fl it wr ma wg dg).2.2.2.2.2.2.2.2.1), .int (bI (mRead X mz PD kind al U fl it wr ma wg dg).2.2.2.2.2.2.2.2.2.1)])), (tx, .inl (c1, 256, .inl X)), (pt, .inl (c2, 256, .inl (mRead X mz PD kind al U fl it wr ma wg dg).2.2.2.2.2.2.2.2.2.2.1)), (ot, .inl (c3, 256, .inl (mRead X mz PD kind al U fl it wr ma wg dg).2.2.2.2.2.2.2.2.2.2.2))] := by
          try rw [hF9]
          exact hD.sub [0, 1, 2, 3] (by decide) rfl
        have hv9 : (0 : Int32) = (mRead X mz PD kind al U fl it wr ma wg dg).1 := by
          try rw [hF9]
          try rfl
        exact kc_iret hx hb hr hlocks hv9 hP9 hD9 hS dX5_read_26
set_option maxHeartbeats 4000000 in
set_option maxRecDepth 100000 in
theorem m_fault (l : Launch) (dC : Nat → ClassId) (dI : Nat → Nat → Nat) (st sz : Nat) (q : Nat) (th : Int32) (tx : Nat) (mz : Nat) (fl : Int32) (it : Bool) (al : Int64) (pt : Nat) (dg : Nat) (ot : Nat) (wr : Nat) (kz : Nat) (ka : Nat) (kd : Nat) (kp : Nat) (ma : Nat) (wg : Bool)  : Met l yX5_fault wsX5_fault ({ frames := 0, cells := 0, slots := 0, locals := 0 }) (kc_Pc (dC, dI) kcl st sz [.ref q] [(q, .inr (5, [.int th, .ref tx, .int (nI mz), .int fl, .int (bI it), .long al, .ref pt, .int (nI dg), .ref ot, .int (nI wr), .int (nI kz), .ref ka, .ref kd, .ref kp, .int (nI ma), .int (bI wg)]))] []) (kc_Qi (dC, dI) kcl fl [(q, .inr (5, [.int 0, .ref tx, .int (nI mz), .int fl, .int (bI it), .long al, .ref pt, .int (nI dg), .ref ot, .int (nI wr), .int (nI kz), .ref ka, .ref kd, .ref kp, .int (nI ma), .int (bI wg)]))] (va_A [(q, .inr (5, [.int th, .ref tx, .int (nI mz), .int fl, .int (bI it), .long al, .ref pt, .int (nI dg), .ref ot, .int (nI wr), .int (nI kz), .ref ka, .ref kd, .ref kp, .int (nI ma), .int (bI wg)]))] sz)) 0 0 (va_A [(q, .inr (5, [.int th, .ref tx, .int (nI mz), .int fl, .int (bI it), .long al, .ref pt, .int (nI dg), .ref ot, .int (nI wr), .int (nI kz), .ref ka, .ref kd, .ref kp, .int (nI ma), .int (bI wg)]))] sz) := by
  refine kc_ofW (Qc := fun A => (kc_Qi (dC, dI) kcl fl [(q, .inr (5, [.int 0, .ref tx, .int (nI mz), .int fl, .int (bI it), .long al, .ref pt, .int (nI dg), .ref ot, .int (nI wr), .int (nI kz), .ref ka, .ref kd, .ref kp, .int (nI ma), .int (bI wg)]))] A)) (cc := cX5_fault) (maxL := 1) (ret := (some .int)) (by decide) rfl (Nat.le_of_ble_eq_true rfl) ?_
  intro p e s m below meth c A ls Cx hA hG hK hP hD hS hl
  obtain ⟨hx, hb, hr, hml, hown, hts, hlocks, hnm⟩ := id Cx
  have hl : lv_has ls 1 [(0, .ref q)] := hl
  refine lv_aload_n hx hb dX5_fault_0 rfl (lv_at hl 0 rfl) ?_
  refine lv_iconst (v := 0) hx hb dX5_fault_1 (by decide) ?_
  refine va_put (D := (dC, dI)) (ci := 5) (v := .int 0) (ty := .int) (C := RX5) (T := TX5) (N := 16) hx hb hts kin_5 tyX5 tyX5_ok nmX5 hown hK hP hD hS 0 rfl rfl 0 (by decide) (hts _ (kcm kwm_204)) (fun _ h9 => h9) rfl (by decide +kernel) rfl rfl (Nat.le_of_ble_eq_true rfl) dX5_fault_2 (fun H locs hP hD hS => ?_)
  have hP : va_P (dC, dI) kcl [(q, .inr (5, [.int 0, .ref tx, .int (nI mz), .int fl, .int (bI it), .long al, .ref pt, .int (nI dg), .ref ot, .int (nI wr), .int (nI kz), .ref ka, .ref kd, .ref kp, .int (nI ma), .int (bI wg)]))] H := hP
  have hD : va_D A [(q, .inr (5, [.int 0, .ref tx, .int (nI mz), .int fl, .int (bI it), .long al, .ref pt, .int (nI dg), .ref ot, .int (nI wr), .int (nI kz), .ref ka, .ref kd, .ref kp, .int (nI ma), .int (bI wg)]))] := hD
  refine lv_aload_n hx hb dX5_fault_5 rfl (lv_at hl 0 rfl) ?_
  refine va_get (D := (dC, dI)) (ci := 5) (v := .int fl) (C := RX5) (T := TX5) (N := 16) hx hb hts kin_5 hown hK hP 0 rfl rfl 3 (by decide) (hts _ (kcm kwm_288)) (fun _ h9 => h9) rfl dX5_fault_6 ?_
  have hP9 : va_P (dC, dI) kcl [(q, .inr (5, [.int 0, .ref tx, .int (nI mz), .int fl, .int (bI it), .long al, .ref pt, .int (nI dg), .ref ot, .int (nI wr), .int (nI kz), .ref ka, .ref kd, .ref kp, .int (nI ma), .int (bI wg)]))] H := by
    skip
    exact hP.sub [0] rfl
  have hD9 : va_D A [(q, .inr (5, [.int 0, .ref tx, .int (nI mz), .int fl, .int (bI it), .long al, .ref pt, .int (nI dg), .ref ot, .int (nI wr), .int (nI kz), .ref ka, .ref kd, .ref kp, .int (nI ma), .int (bI wg)]))] := by
    skip
    exact hD.sub [0] (by decide) rfl
  have hv9 : fl = fl := by
    skip
    try rfl
  exact kc_iret hx hb hr hlocks hv9 hP9 hD9 hS dX5_fault_9
def mOut (U : Nat → Int32) (wr : Nat) (p1 : Int32) : Int32 × Int32 :=
  if p1 < 0 then
    (0, 1)
  else
    if p1 < (nI wr) then
      (U p1.toNatClampNeg, 0)
    else
      (0, 1)
set_option maxHeartbeats 4000000 in
set_option maxRecDepth 100000 in
theorem m_out (l : Launch) (dC : Nat → ClassId) (dI : Nat → Nat → Nat) (st sz : Nat) (q : Nat) (th : Int32) (tx : Nat) (mz : Nat) (fl : Int32) (it : Bool) (al : Int64) (pt : Nat) (dg : Nat) (ot : Nat) (wr : Nat) (kz : Nat) (ka : Nat) (kd : Nat) (kp : Nat) (ma : Nat) (wg : Bool) (c3 : ClassId) (U : Nat → Int32) (p1 : Int32) (hw : wr ≤ 256) : Met l yX5_out wsX5_out ({ frames := 0, cells := 0, slots := 0, locals := 0 }) (kc_Pc (dC, dI) kcl st sz [.ref q, .int p1] [(q, .inr (5, [.int th, .ref tx, .int (nI mz), .int fl, .int (bI it), .long al, .ref pt, .int (nI dg), .ref ot, .int (nI wr), .int (nI kz), .ref ka, .ref kd, .ref kp, .int (nI ma), .int (bI wg)])), (ot, .inl (c3, 256, .inl U))] [(c3, .int)]) (kc_Qi (dC, dI) kcl (mOut U wr p1).1 [(q, .inr (5, [.int (mOut U wr p1).2, .ref tx, .int (nI mz), .int fl, .int (bI it), .long al, .ref pt, .int (nI dg), .ref ot, .int (nI wr), .int (nI kz), .ref ka, .ref kd, .ref kp, .int (nI ma), .int (bI wg)])), (ot, .inl (c3, 256, .inl U))] (va_A [(q, .inr (5, [.int th, .ref tx, .int (nI mz), .int fl, .int (bI it), .long al, .ref pt, .int (nI dg), .ref ot, .int (nI wr), .int (nI kz), .ref ka, .ref kd, .ref kp, .int (nI ma), .int (bI wg)])), (ot, .inl (c3, 256, .inl U))] sz)) 0 0 (va_A [(q, .inr (5, [.int th, .ref tx, .int (nI mz), .int fl, .int (bI it), .long al, .ref pt, .int (nI dg), .ref ot, .int (nI wr), .int (nI kz), .ref ka, .ref kd, .ref kp, .int (nI ma), .int (bI wg)])), (ot, .inl (c3, 256, .inl U))] sz) := by
  refine kc_ofW (Qc := fun A => (kc_Qi (dC, dI) kcl (mOut U wr p1).1 [(q, .inr (5, [.int (mOut U wr p1).2, .ref tx, .int (nI mz), .int fl, .int (bI it), .long al, .ref pt, .int (nI dg), .ref ot, .int (nI wr), .int (nI kz), .ref ka, .ref kd, .ref kp, .int (nI ma), .int (bI wg)])), (ot, .inl (c3, 256, .inl U))] A)) (cc := cX5_out) (maxL := 2) (ret := (some .int)) (by decide) rfl (Nat.le_of_ble_eq_true rfl) ?_
  intro p e s m below meth c A ls Cx hA hG hK hP hD hS hl
  obtain ⟨hx, hb, hr, hml, hown, hts, hlocks, hnm⟩ := id Cx
  have hl : lv_has ls 2 [(0, .ref q), (1, .int p1)] := hl
  refine lv_aload_n hx hb dX5_out_0 rfl (lv_at hl 0 rfl) ?_
  refine lv_iload_n hx hb dX5_out_1 rfl (lv_at hl 1 rfl) ?_
  refine lv_if_lt (tgt := 13) hx hb dX5_out_2 (by decide) (fun c_2 => ?_) (fun c_2 => ?_)
  · refine lv_iconst (v := 1) hx hb dX5_out_13 (by decide) ?_
    refine lv_goto (tgt := 18) hx hb dX5_out_14 (by decide) ?_
    refine va_put (D := (dC, dI)) (ci := 5) (v := .int 1) (ty := .int) (C := RX5) (T := TX5) (N := 16) hx hb hts kin_5 tyX5 tyX5_ok nmX5 hown hK hP hD hS 0 rfl rfl 0 (by decide) (hts _ (kcm kwm_204)) (fun _ h9 => h9) rfl (by decide +kernel) rfl rfl (Nat.le_of_ble_eq_true rfl) dX5_out_18 (fun H locs hP hD hS => ?_)
    have hP : va_P (dC, dI) kcl [(q, .inr (5, [.int 1, .ref tx, .int (nI mz), .int fl, .int (bI it), .long al, .ref pt, .int (nI dg), .ref ot, .int (nI wr), .int (nI kz), .ref ka, .ref kd, .ref kp, .int (nI ma), .int (bI wg)])), (ot, .inl (c3, 256, .inl U))] H := hP
    have hD : va_D A [(q, .inr (5, [.int 1, .ref tx, .int (nI mz), .int fl, .int (bI it), .long al, .ref pt, .int (nI dg), .ref ot, .int (nI wr), .int (nI kz), .ref ka, .ref kd, .ref kp, .int (nI ma), .int (bI wg)])), (ot, .inl (c3, 256, .inl U))] := hD
    refine lv_aload_n hx hb dX5_out_21 rfl (lv_at hl 0 rfl) ?_
    refine va_get (D := (dC, dI)) (ci := 5) (v := .int 1) (C := RX5) (T := TX5) (N := 16) hx hb hts kin_5 hown hK hP 0 rfl rfl 0 (by decide) (hts _ (kcm kwm_204)) (fun _ h9 => h9) rfl dX5_out_22 ?_
    refine lv_if_le (tgt := 32) hx hb dX5_out_25 (by decide) (fun c_25 => ?_) (fun c_25 => ?_)
    · exact absurd c_25 (by decide)
    · refine lv_iconst (v := 0) hx hb dX5_out_28 (by decide) ?_
      refine lv_goto (tgt := 38) hx hb dX5_out_29 (by decide) ?_
      have hF9 : mOut U wr p1 = (0, 1) := by
        first | (simp only [mOut, if_pos c_2]; done) | rfl
      have hP9 : va_P (dC, dI) kcl [(q, .inr (5, [.int (mOut U wr p1).2, .ref tx, .int (nI mz), .int fl, .int (bI it), .long al, .ref pt, .int (nI dg), .ref ot, .int (nI wr), .int (nI kz), .ref ka, .ref kd, .ref kp, .int (nI ma), .int (bI wg)])), (ot, .inl (c3, 256, .inl U))] H := by
        try rw [hF9]
        exact hP.sub [0, 1] rfl
      have hD9 : va_D A [(q, .inr (5, [.int (mOut U wr p1).2, .ref tx, .int (nI mz), .int fl, .int (bI it), .long al, .ref pt, .int (nI dg), .ref ot, .int (nI wr), .int (nI kz), .ref ka, .ref kd, .ref kp, .int (nI ma), .int (bI wg)])), (ot, .inl (c3, 256, .inl U))] := by
        try rw [hF9]
        exact hD.sub [0, 1] (by decide) rfl
      have hv9 : (0 : Int32) = (mOut U wr p1).1 := by
        try rw [hF9]
        try rfl
      exact kc_iret hx hb hr hlocks hv9 hP9 hD9 hS dX5_out_38
  · refine lv_iload_n hx hb dX5_out_5 rfl (lv_at hl 1 rfl) ?_
    refine lv_aload_n hx hb dX5_out_6 rfl (lv_at hl 0 rfl) ?_
    refine va_get (D := (dC, dI)) (ci := 5) (v := .int (nI wr)) (C := RX5) (T := TX5) (N := 16) hx hb hts kin_5 hown hK hP 0 rfl rfl 9 (by decide) (hts _ (kcm kwm_271)) (fun _ h9 => h9) rfl dX5_out_7 ?_
    refine lv_icmp_lt (tgt := 17) hx hb dX5_out_10 (by decide) (fun c_10 => ?_) (fun c_10 => ?_)
    · refine lv_iconst (v := 0) hx hb dX5_out_17 (by decide) ?_
      refine va_put (D := (dC, dI)) (ci := 5) (v := .int 0) (ty := .int) (C := RX5) (T := TX5) (N := 16) hx hb hts kin_5 tyX5 tyX5_ok nmX5 hown hK hP hD hS 0 rfl rfl 0 (by decide) (hts _ (kcm kwm_204)) (fun _ h9 => h9) rfl (by decide +kernel) rfl rfl (Nat.le_of_ble_eq_true rfl) dX5_out_18 (fun H locs hP hD hS => ?_)
      have hP : va_P (dC, dI) kcl [(q, .inr (5, [.int 0, .ref tx, .int (nI mz), .int fl, .int (bI it), .long al, .ref pt, .int (nI dg), .ref ot, .int (nI wr), .int (nI kz), .ref ka, .ref kd, .ref kp, .int (nI ma), .int (bI wg)])), (ot, .inl (c3, 256, .inl U))] H := hP
      have hD : va_D A [(q, .inr (5, [.int 0, .ref tx, .int (nI mz), .int fl, .int (bI it), .long al, .ref pt, .int (nI dg), .ref ot, .int (nI wr), .int (nI kz), .ref ka, .ref kd, .ref kp, .int (nI ma), .int (bI wg)])), (ot, .inl (c3, 256, .inl U))] := hD
      refine lv_aload_n hx hb dX5_out_21 rfl (lv_at hl 0 rfl) ?_
      refine va_get (D := (dC, dI)) (ci := 5) (v := .int 0) (C := RX5) (T := TX5) (N := 16) hx hb hts kin_5 hown hK hP 0 rfl rfl 0 (by decide) (hts _ (kcm kwm_204)) (fun _ h9 => h9) rfl dX5_out_22 ?_
      refine lv_if_le (tgt := 32) hx hb dX5_out_25 (by decide) (fun c_25 => ?_) (fun c_25 => ?_)
      · refine lv_aload_n hx hb dX5_out_32 rfl (lv_at hl 0 rfl) ?_
        refine va_get (D := (dC, dI)) (ci := 5) (v := .ref ot) (C := RX5) (T := TX5) (N := 16) hx hb hts kin_5 hown hK hP 0 rfl rfl 8 (by decide) (hts _ (kcm kwm_270)) (fun _ h9 => h9) rfl dX5_out_33 ?_
        refine lv_iload_n hx hb dX5_out_36 rfl (lv_at hl 1 rfl) ?_
        refine va_iald hx hb hK hP 1 0 rfl rfl (kb_in' c_2 c_10 hw (by decide)) dX5_out_37 ?_
        have hF9 : mOut U wr p1 = (U p1.toNatClampNeg, 0) := by
          first | (simp only [mOut, if_neg c_2, if_pos c_10]; done) | rfl
        have hP9 : va_P (dC, dI) kcl [(q, .inr (5, [.int (mOut U wr p1).2, .ref tx, .int (nI mz), .int fl, .int (bI it), .long al, .ref pt, .int (nI dg), .ref ot, .int (nI wr), .int (nI kz), .ref ka, .ref kd, .ref kp, .int (nI ma), .int (bI wg)])), (ot, .inl (c3, 256, .inl U))] H := by
          try rw [hF9]
          exact hP.sub [0, 1] rfl
        have hD9 : va_D A [(q, .inr (5, [.int (mOut U wr p1).2, .ref tx, .int (nI mz), .int fl, .int (bI it), .long al, .ref pt, .int (nI dg), .ref ot, .int (nI wr), .int (nI kz), .ref ka, .ref kd, .ref kp, .int (nI ma), .int (bI wg)])), (ot, .inl (c3, 256, .inl U))] := by
          try rw [hF9]
          exact hD.sub [0, 1] (by decide) rfl
        have hv9 : U p1.toNatClampNeg = (mOut U wr p1).1 := by
          try rw [hF9]
          try rfl
        exact kc_iret hx hb hr hlocks hv9 hP9 hD9 hS dX5_out_38
      · exact absurd (by decide) c_25
    · refine lv_iconst (v := 1) hx hb dX5_out_13 (by decide) ?_
      refine lv_goto (tgt := 18) hx hb dX5_out_14 (by decide) ?_
      refine va_put (D := (dC, dI)) (ci := 5) (v := .int 1) (ty := .int) (C := RX5) (T := TX5) (N := 16) hx hb hts kin_5 tyX5 tyX5_ok nmX5 hown hK hP hD hS 0 rfl rfl 0 (by decide) (hts _ (kcm kwm_204)) (fun _ h9 => h9) rfl (by decide +kernel) rfl rfl (Nat.le_of_ble_eq_true rfl) dX5_out_18 (fun H locs hP hD hS => ?_)
      have hP : va_P (dC, dI) kcl [(q, .inr (5, [.int 1, .ref tx, .int (nI mz), .int fl, .int (bI it), .long al, .ref pt, .int (nI dg), .ref ot, .int (nI wr), .int (nI kz), .ref ka, .ref kd, .ref kp, .int (nI ma), .int (bI wg)])), (ot, .inl (c3, 256, .inl U))] H := hP
      have hD : va_D A [(q, .inr (5, [.int 1, .ref tx, .int (nI mz), .int fl, .int (bI it), .long al, .ref pt, .int (nI dg), .ref ot, .int (nI wr), .int (nI kz), .ref ka, .ref kd, .ref kp, .int (nI ma), .int (bI wg)])), (ot, .inl (c3, 256, .inl U))] := hD
      refine lv_aload_n hx hb dX5_out_21 rfl (lv_at hl 0 rfl) ?_
      refine va_get (D := (dC, dI)) (ci := 5) (v := .int 1) (C := RX5) (T := TX5) (N := 16) hx hb hts kin_5 hown hK hP 0 rfl rfl 0 (by decide) (hts _ (kcm kwm_204)) (fun _ h9 => h9) rfl dX5_out_22 ?_
      refine lv_if_le (tgt := 32) hx hb dX5_out_25 (by decide) (fun c_25 => ?_) (fun c_25 => ?_)
      · exact absurd c_25 (by decide)
      · refine lv_iconst (v := 0) hx hb dX5_out_28 (by decide) ?_
        refine lv_goto (tgt := 38) hx hb dX5_out_29 (by decide) ?_
        have hF9 : mOut U wr p1 = (0, 1) := by
          first | (simp only [mOut, if_neg c_2, if_neg c_10]; done) | rfl
        have hP9 : va_P (dC, dI) kcl [(q, .inr (5, [.int (mOut U wr p1).2, .ref tx, .int (nI mz), .int fl, .int (bI it), .long al, .ref pt, .int (nI dg), .ref ot, .int (nI wr), .int (nI kz), .ref ka, .ref kd, .ref kp, .int (nI ma), .int (bI wg)])), (ot, .inl (c3, 256, .inl U))] H := by
          try rw [hF9]
          exact hP.sub [0, 1] rfl
        have hD9 : va_D A [(q, .inr (5, [.int (mOut U wr p1).2, .ref tx, .int (nI mz), .int fl, .int (bI it), .long al, .ref pt, .int (nI dg), .ref ot, .int (nI wr), .int (nI kz), .ref ka, .ref kd, .ref kp, .int (nI ma), .int (bI wg)])), (ot, .inl (c3, 256, .inl U))] := by
          try rw [hF9]
          exact hD.sub [0, 1] (by decide) rfl
        have hv9 : (0 : Int32) = (mOut U wr p1).1 := by
          try rw [hF9]
          try rfl
        exact kc_iret hx hb hr hlocks hv9 hP9 hD9 hS dX5_out_38
def mSecs (it : Bool) (al : Int64) : Int64 × Int32 :=
  if (bI it) = 0 then
    (0, 1)
  else
    (al, 0)
set_option maxHeartbeats 4000000 in
set_option maxRecDepth 100000 in
theorem m_seconds (l : Launch) (dC : Nat → ClassId) (dI : Nat → Nat → Nat) (st sz : Nat) (q : Nat) (th : Int32) (tx : Nat) (mz : Nat) (fl : Int32) (it : Bool) (al : Int64) (pt : Nat) (dg : Nat) (ot : Nat) (wr : Nat) (kz : Nat) (ka : Nat) (kd : Nat) (kp : Nat) (ma : Nat) (wg : Bool)  : Met l yX5_seconds wsX5_seconds ({ frames := 0, cells := 0, slots := 0, locals := 0 }) (kc_Pc (dC, dI) kcl st sz [.ref q] [(q, .inr (5, [.int th, .ref tx, .int (nI mz), .int fl, .int (bI it), .long al, .ref pt, .int (nI dg), .ref ot, .int (nI wr), .int (nI kz), .ref ka, .ref kd, .ref kp, .int (nI ma), .int (bI wg)]))] []) (kc_Ql (dC, dI) kcl (mSecs it al).1 [(q, .inr (5, [.int (mSecs it al).2, .ref tx, .int (nI mz), .int fl, .int (bI it), .long al, .ref pt, .int (nI dg), .ref ot, .int (nI wr), .int (nI kz), .ref ka, .ref kd, .ref kp, .int (nI ma), .int (bI wg)]))] (va_A [(q, .inr (5, [.int th, .ref tx, .int (nI mz), .int fl, .int (bI it), .long al, .ref pt, .int (nI dg), .ref ot, .int (nI wr), .int (nI kz), .ref ka, .ref kd, .ref kp, .int (nI ma), .int (bI wg)]))] sz)) 0 0 (va_A [(q, .inr (5, [.int th, .ref tx, .int (nI mz), .int fl, .int (bI it), .long al, .ref pt, .int (nI dg), .ref ot, .int (nI wr), .int (nI kz), .ref ka, .ref kd, .ref kp, .int (nI ma), .int (bI wg)]))] sz) := by
  refine kc_ofW (Qc := fun A => (kc_Ql (dC, dI) kcl (mSecs it al).1 [(q, .inr (5, [.int (mSecs it al).2, .ref tx, .int (nI mz), .int fl, .int (bI it), .long al, .ref pt, .int (nI dg), .ref ot, .int (nI wr), .int (nI kz), .ref ka, .ref kd, .ref kp, .int (nI ma), .int (bI wg)]))] A)) (cc := cX5_seconds) (maxL := 1) (ret := (some .long)) (by decide) rfl (Nat.le_of_ble_eq_true rfl) ?_
  intro p e s m below meth c A ls Cx hA hG hK hP hD hS hl
  obtain ⟨hx, hb, hr, hml, hown, hts, hlocks, hnm⟩ := id Cx
  have hl : lv_has ls 1 [(0, .ref q)] := hl
  refine lv_aload_n hx hb dX5_seconds_0 rfl (lv_at hl 0 rfl) ?_
  refine lv_aload_n hx hb dX5_seconds_1 rfl (lv_at hl 0 rfl) ?_
  refine va_get (D := (dC, dI)) (ci := 5) (v := .int (bI it)) (C := RX5) (T := TX5) (N := 16) hx hb hts kin_5 hown hK hP 0 rfl rfl 4 (by decide) (hts _ (kcm kwm_289)) (fun _ h9 => h9) rfl dX5_seconds_2 ?_
  refine lv_if_eq (tgt := 12) hx hb dX5_seconds_5 (by decide) (fun c_5 => ?_) (fun c_5 => ?_)
  · refine lv_iconst (v := 1) hx hb dX5_seconds_12 (by decide) ?_
    refine va_put (D := (dC, dI)) (ci := 5) (v := .int 1) (ty := .int) (C := RX5) (T := TX5) (N := 16) hx hb hts kin_5 tyX5 tyX5_ok nmX5 hown hK hP hD hS 0 rfl rfl 0 (by decide) (hts _ (kcm kwm_204)) (fun _ h9 => h9) rfl (by decide +kernel) rfl rfl (Nat.le_of_ble_eq_true rfl) dX5_seconds_13 (fun H locs hP hD hS => ?_)
    have hP : va_P (dC, dI) kcl [(q, .inr (5, [.int 1, .ref tx, .int (nI mz), .int fl, .int (bI it), .long al, .ref pt, .int (nI dg), .ref ot, .int (nI wr), .int (nI kz), .ref ka, .ref kd, .ref kp, .int (nI ma), .int (bI wg)]))] H := hP
    have hD : va_D A [(q, .inr (5, [.int 1, .ref tx, .int (nI mz), .int fl, .int (bI it), .long al, .ref pt, .int (nI dg), .ref ot, .int (nI wr), .int (nI kz), .ref ka, .ref kd, .ref kp, .int (nI ma), .int (bI wg)]))] := hD
    refine lv_aload_n hx hb dX5_seconds_16 rfl (lv_at hl 0 rfl) ?_
    refine va_get (D := (dC, dI)) (ci := 5) (v := .int (bI it)) (C := RX5) (T := TX5) (N := 16) hx hb hts kin_5 hown hK hP 0 rfl rfl 4 (by decide) (hts _ (kcm kwm_289)) (fun _ h9 => h9) rfl dX5_seconds_17 ?_
    refine lv_if_eq (tgt := 30) hx hb dX5_seconds_20 (by decide) (fun c_20 => ?_) (fun c_20 => ?_)
    · refine lv_lconst (v := 0) hx hb dX5_seconds_30 (by decide) ?_
      have hF9 : mSecs it al = (0, 1) := by
        first | (simp only [mSecs, if_pos c_5]; done) | rfl
      have hP9 : va_P (dC, dI) kcl [(q, .inr (5, [.int (mSecs it al).2, .ref tx, .int (nI mz), .int fl, .int (bI it), .long al, .ref pt, .int (nI dg), .ref ot, .int (nI wr), .int (nI kz), .ref ka, .ref kd, .ref kp, .int (nI ma), .int (bI wg)]))] H := by
        try rw [hF9]
        exact hP.sub [0] rfl
      have hD9 : va_D A [(q, .inr (5, [.int (mSecs it al).2, .ref tx, .int (nI mz), .int fl, .int (bI it), .long al, .ref pt, .int (nI dg), .ref ot, .int (nI wr), .int (nI kz), .ref ka, .ref kd, .ref kp, .int (nI ma), .int (bI wg)]))] := by
        try rw [hF9]
        exact hD.sub [0] (by decide) rfl
      have hv9 : (0 : Int64) = (mSecs it al).1 := by
        try rw [hF9]
        try rfl
      exact kc_lret hx hb hr hlocks hv9 hP9 hD9 hS dX5_seconds_31
    · exact absurd c_5 c_20
  · refine lv_iconst (v := 0) hx hb dX5_seconds_8 (by decide) ?_
    refine lv_goto (tgt := 13) hx hb dX5_seconds_9 (by decide) ?_
    refine va_put (D := (dC, dI)) (ci := 5) (v := .int 0) (ty := .int) (C := RX5) (T := TX5) (N := 16) hx hb hts kin_5 tyX5 tyX5_ok nmX5 hown hK hP hD hS 0 rfl rfl 0 (by decide) (hts _ (kcm kwm_204)) (fun _ h9 => h9) rfl (by decide +kernel) rfl rfl (Nat.le_of_ble_eq_true rfl) dX5_seconds_13 (fun H locs hP hD hS => ?_)
    have hP : va_P (dC, dI) kcl [(q, .inr (5, [.int 0, .ref tx, .int (nI mz), .int fl, .int (bI it), .long al, .ref pt, .int (nI dg), .ref ot, .int (nI wr), .int (nI kz), .ref ka, .ref kd, .ref kp, .int (nI ma), .int (bI wg)]))] H := hP
    have hD : va_D A [(q, .inr (5, [.int 0, .ref tx, .int (nI mz), .int fl, .int (bI it), .long al, .ref pt, .int (nI dg), .ref ot, .int (nI wr), .int (nI kz), .ref ka, .ref kd, .ref kp, .int (nI ma), .int (bI wg)]))] := hD
    refine lv_aload_n hx hb dX5_seconds_16 rfl (lv_at hl 0 rfl) ?_
    refine va_get (D := (dC, dI)) (ci := 5) (v := .int (bI it)) (C := RX5) (T := TX5) (N := 16) hx hb hts kin_5 hown hK hP 0 rfl rfl 4 (by decide) (hts _ (kcm kwm_289)) (fun _ h9 => h9) rfl dX5_seconds_17 ?_
    refine lv_if_eq (tgt := 30) hx hb dX5_seconds_20 (by decide) (fun c_20 => ?_) (fun c_20 => ?_)
    · exact absurd c_20 c_5
    · refine lv_aload_n hx hb dX5_seconds_23 rfl (lv_at hl 0 rfl) ?_
      refine va_get (D := (dC, dI)) (ci := 5) (v := .long al) (C := RX5) (T := TX5) (N := 16) hx hb hts kin_5 hown hK hP 0 rfl rfl 5 (by decide) (hts _ (kcm kwm_217)) (fun _ h9 => h9) rfl dX5_seconds_24 ?_
      refine lv_goto (tgt := 31) hx hb dX5_seconds_27 (by decide) ?_
      have hF9 : mSecs it al = (al, 0) := by
        first | (simp only [mSecs, if_neg c_5]; done) | rfl
      have hP9 : va_P (dC, dI) kcl [(q, .inr (5, [.int (mSecs it al).2, .ref tx, .int (nI mz), .int fl, .int (bI it), .long al, .ref pt, .int (nI dg), .ref ot, .int (nI wr), .int (nI kz), .ref ka, .ref kd, .ref kp, .int (nI ma), .int (bI wg)]))] H := by
        try rw [hF9]
        exact hP.sub [0] rfl
      have hD9 : va_D A [(q, .inr (5, [.int (mSecs it al).2, .ref tx, .int (nI mz), .int fl, .int (bI it), .long al, .ref pt, .int (nI dg), .ref ot, .int (nI wr), .int (nI kz), .ref ka, .ref kd, .ref kp, .int (nI ma), .int (bI wg)]))] := by
        try rw [hF9]
        exact hD.sub [0] (by decide) rfl
      have hv9 : al = (mSecs it al).1 := by
        try rw [hF9]
        try rfl
      exact kc_lret hx hb hr hlocks hv9 hP9 hD9 hS dX5_seconds_31
def mUn (it : Bool) (al : Int64) (dg : Nat) (p1 : Int32) : Int32 × Int32 :=
  if (bI it) = 0 then
    (0, 1)
  else
    if p1 < 0 then
      (0, 2)
    else
      if p1 ≤ 7 then
        (mUnit al dg p1, 0)
      else
        (0, 2)
set_option maxHeartbeats 4000000 in
set_option maxRecDepth 100000 in
theorem m_unit (l : Launch) (dC : Nat → ClassId) (dI : Nat → Nat → Nat) (st sz : Nat) (q : Nat) (th : Int32) (tx : Nat) (mz : Nat) (fl : Int32) (it : Bool) (al : Int64) (pt : Nat) (dg : Nat) (ot : Nat) (wr : Nat) (kz : Nat) (ka : Nat) (kd : Nat) (kp : Nat) (ma : Nat) (wg : Bool) (p1 : Int32) (hG9 : it = true → ((yrL (mDay al) 10100 (mDay al / 366)).isSome = true) ∧ ((moL (yrF (mDay al)) 13 (mDay al - mTo (yrF (mDay al))) 1).isSome = true) ∧ (moF al ≤ 12)) : Met l yX5_unit wsX5_unit ({ frames := 4, cells := 0, slots := 0, locals := 87 }) (kc_Pc (dC, dI) kcl st sz [.ref q, .int p1] [(q, .inr (5, [.int th, .ref tx, .int (nI mz), .int fl, .int (bI it), .long al, .ref pt, .int (nI dg), .ref ot, .int (nI wr), .int (nI kz), .ref ka, .ref kd, .ref kp, .int (nI ma), .int (bI wg)]))] []) (kc_Qi (dC, dI) kcl (mUn it al dg p1).1 [(q, .inr (5, [.int (mUn it al dg p1).2, .ref tx, .int (nI mz), .int fl, .int (bI it), .long al, .ref pt, .int (nI dg), .ref ot, .int (nI wr), .int (nI kz), .ref ka, .ref kd, .ref kp, .int (nI ma), .int (bI wg)]))] (va_A [(q, .inr (5, [.int th, .ref tx, .int (nI mz), .int fl, .int (bI it), .long al, .ref pt, .int (nI dg), .ref ot, .int (nI wr), .int (nI kz), .ref ka, .ref kd, .ref kp, .int (nI ma), .int (bI wg)]))] sz)) 0 0 (va_A [(q, .inr (5, [.int th, .ref tx, .int (nI mz), .int fl, .int (bI it), .long al, .ref pt, .int (nI dg), .ref ot, .int (nI wr), .int (nI kz), .ref ka, .ref kd, .ref kp, .int (nI ma), .int (bI wg)]))] sz) := by
  refine kc_ofW (Qc := fun A => (kc_Qi (dC, dI) kcl (mUn it al dg p1).1 [(q, .inr (5, [.int (mUn it al dg p1).2, .ref tx, .int (nI mz), .int fl, .int (bI it), .long al, .ref pt, .int (nI dg), .ref ot, .int (nI wr), .int (nI kz), .ref ka, .ref kd, .ref kp, .int (nI ma), .int (bI wg)]))] A)) (cc := cX5_unit) (maxL := 2) (ret := (some .int)) (by decide) rfl (Nat.le_of_ble_eq_true rfl) ?_
  intro p e s m below meth c A ls Cx hA hG hK hP hD hS hl
  obtain ⟨hx, hb, hr, hml, hown, hts, hlocks, hnm⟩ := id Cx
  have hl : lv_has ls 2 [(0, .ref q), (1, .int p1)] := hl
  refine lv_aload_n hx hb dX5_unit_0 rfl (lv_at hl 0 rfl) ?_
  refine lv_aload_n hx hb dX5_unit_1 rfl (lv_at hl 0 rfl) ?_
  refine va_get (D := (dC, dI)) (ci := 5) (v := .int (bI it)) (C := RX5) (T := TX5) (N := 16) hx hb hts kin_5 hown hK hP 0 rfl rfl 4 (by decide) (hts _ (kcm kwm_289)) (fun _ h9 => h9) rfl dX5_unit_2 ?_
  refine lv_if_ne (tgt := 12) hx hb dX5_unit_5 (by decide) (fun c_5 => ?_) (fun c_5 => ?_)
  · refine lv_iload_n hx hb dX5_unit_12 rfl (lv_at hl 1 rfl) ?_
    refine lv_if_lt (tgt := 22) hx hb dX5_unit_13 (by decide) (fun c_13 => ?_) (fun c_13 => ?_)
    · refine lv_iconst (v := 2) hx hb dX5_unit_22 (by decide) ?_
      refine lv_goto (tgt := 27) hx hb dX5_unit_23 (by decide) ?_
      refine va_put (D := (dC, dI)) (ci := 5) (v := .int 2) (ty := .int) (C := RX5) (T := TX5) (N := 16) hx hb hts kin_5 tyX5 tyX5_ok nmX5 hown hK hP hD hS 0 rfl rfl 0 (by decide) (hts _ (kcm kwm_204)) (fun _ h9 => h9) rfl (by decide +kernel) rfl rfl (Nat.le_of_ble_eq_true rfl) dX5_unit_27 (fun H locs hP hD hS => ?_)
      have hP : va_P (dC, dI) kcl [(q, .inr (5, [.int 2, .ref tx, .int (nI mz), .int fl, .int (bI it), .long al, .ref pt, .int (nI dg), .ref ot, .int (nI wr), .int (nI kz), .ref ka, .ref kd, .ref kp, .int (nI ma), .int (bI wg)]))] H := hP
      have hD : va_D A [(q, .inr (5, [.int 2, .ref tx, .int (nI mz), .int fl, .int (bI it), .long al, .ref pt, .int (nI dg), .ref ot, .int (nI wr), .int (nI kz), .ref ka, .ref kd, .ref kp, .int (nI ma), .int (bI wg)]))] := hD
      refine lv_aload_n hx hb dX5_unit_30 rfl (lv_at hl 0 rfl) ?_
      refine va_get (D := (dC, dI)) (ci := 5) (v := .int 2) (C := RX5) (T := TX5) (N := 16) hx hb hts kin_5 hown hK hP 0 rfl rfl 0 (by decide) (hts _ (kcm kwm_204)) (fun _ h9 => h9) rfl dX5_unit_31 ?_
      refine lv_if_le (tgt := 41) hx hb dX5_unit_34 (by decide) (fun c_34 => ?_) (fun c_34 => ?_)
      · exact absurd c_34 (by decide)
      · refine lv_iconst (v := 0) hx hb dX5_unit_37 (by decide) ?_
        refine lv_goto (tgt := 46) hx hb dX5_unit_38 (by decide) ?_
        have hF9 : mUn it al dg p1 = (0, 2) := by
          first | (simp only [mUn, if_neg c_5, if_pos c_13]; done) | rfl
        have hP9 : va_P (dC, dI) kcl [(q, .inr (5, [.int (mUn it al dg p1).2, .ref tx, .int (nI mz), .int fl, .int (bI it), .long al, .ref pt, .int (nI dg), .ref ot, .int (nI wr), .int (nI kz), .ref ka, .ref kd, .ref kp, .int (nI ma), .int (bI wg)]))] H := by
          try rw [hF9]
          exact hP.sub [0] rfl
        have hD9 : va_D A [(q, .inr (5, [.int (mUn it al dg p1).2, .ref tx, .int (nI mz), .int fl, .int (bI it), .long al, .ref pt, .int (nI dg), .ref ot, .int (nI wr), .int (nI kz), .ref ka, .ref kd, .ref kp, .int (nI ma), .int (bI wg)]))] := by
          try rw [hF9]
          exact hD.sub [0] (by decide) rfl
        have hv9 : (0 : Int32) = (mUn it al dg p1).1 := by
          try rw [hF9]
          try rfl
        exact kc_iret hx hb hr hlocks hv9 hP9 hD9 hS dX5_unit_46
    · refine lv_iload_n hx hb dX5_unit_16 rfl (lv_at hl 1 rfl) ?_
      refine lv_bipush (v := 7) hx hb dX5_unit_17 (by decide) ?_
      refine lv_icmp_le (tgt := 26) hx hb dX5_unit_19 (by decide) (fun c_19 => ?_) (fun c_19 => ?_)
      · refine lv_iconst (v := 0) hx hb dX5_unit_26 (by decide) ?_
        refine va_put (D := (dC, dI)) (ci := 5) (v := .int 0) (ty := .int) (C := RX5) (T := TX5) (N := 16) hx hb hts kin_5 tyX5 tyX5_ok nmX5 hown hK hP hD hS 0 rfl rfl 0 (by decide) (hts _ (kcm kwm_204)) (fun _ h9 => h9) rfl (by decide +kernel) rfl rfl (Nat.le_of_ble_eq_true rfl) dX5_unit_27 (fun H locs hP hD hS => ?_)
        have hP : va_P (dC, dI) kcl [(q, .inr (5, [.int 0, .ref tx, .int (nI mz), .int fl, .int (bI it), .long al, .ref pt, .int (nI dg), .ref ot, .int (nI wr), .int (nI kz), .ref ka, .ref kd, .ref kp, .int (nI ma), .int (bI wg)]))] H := hP
        have hD : va_D A [(q, .inr (5, [.int 0, .ref tx, .int (nI mz), .int fl, .int (bI it), .long al, .ref pt, .int (nI dg), .ref ot, .int (nI wr), .int (nI kz), .ref ka, .ref kd, .ref kp, .int (nI ma), .int (bI wg)]))] := hD
        refine lv_aload_n hx hb dX5_unit_30 rfl (lv_at hl 0 rfl) ?_
        refine va_get (D := (dC, dI)) (ci := 5) (v := .int 0) (C := RX5) (T := TX5) (N := 16) hx hb hts kin_5 hown hK hP 0 rfl rfl 0 (by decide) (hts _ (kcm kwm_204)) (fun _ h9 => h9) rfl dX5_unit_31 ?_
        refine lv_if_le (tgt := 41) hx hb dX5_unit_34 (by decide) (fun c_34 => ?_) (fun c_34 => ?_)
        · refine lv_aload_n hx hb dX5_unit_41 rfl (lv_at hl 0 rfl) ?_
          refine lv_iload_n hx hb dX5_unit_42 rfl (lv_at hl 1 rfl) ?_
          have hPc := hP.sub (ws' := [(q, .inr (5, [.int 0, .ref tx, .int (nI mz), .int fl, .int (bI it), .long al, .ref pt, .int (nI dg), .ref ot, .int (nI wr), .int (nI kz), .ref ka, .ref kd, .ref kp, .int (nI ma), .int (bI wg)]))]) [0] rfl
          have hDc := hD.sub (ws' := [(q, .inr (5, [.int 0, .ref tx, .int (nI mz), .int fl, .int (bI it), .long al, .ref pt, .int (nI dg), .ref ot, .int (nI wr), .int (nI kz), .ref ka, .ref kd, .ref kp, .int (nI ma), .int (bI wg)]))]) [0] (by decide) rfl
          have hKc := hK.sub (tys' := []) [] rfl
          have hFc := va_free (wc := [(q, .inr (5, [.int 0, .ref tx, .int (nI mz), .int fl, .int (bI it), .long al, .ref pt, .int (nI dg), .ref ot, .int (nI wr), .int (nI kz), .ref ka, .ref kd, .ref kp, .int (nI ma), .int (bI wg)]))]) hD hS hA [0] rfl
          refine kc_callSi (val := mUnit al dg p1) (va_runV (As := [.int p1]) (rest := []) ⟨hx, hb, hml, hown, hts⟩ (m_unitOf l dC dI st H.size q 0 tx mz fl it al pt dg ot wr kz ka kd kp ma wg p1 (hG9 (bI_ne c_5)).1 (hG9 (bI_ne c_5)).2.1 (hG9 (bI_ne c_5)).2.2) (cwV 1 hts (kwV kwm_277 kwm_278 kwm_279 kwm_203 kwm_276) rfl rfl rfl (by decide +kernel) ⟨Nat.le_of_ble_eq_true rfl, Nat.le_of_ble_eq_true rfl⟩) ⟨kc_blind, va_recv hKc hPc (ci := 5) (q0 := 0) rfl rfl, kc_pre hG hS hFc hKc hPc hDc⟩ rfl rfl hl.1 rfl (lv_room (Nat.le_of_ble_eq_true rfl)) dX5_unit_43 ⟨Nat.le_of_ble_eq_true rfl, Nat.le_of_ble_eq_true rfl⟩) ?_
          have hF9 : mUn it al dg p1 = (mUnit al dg p1, 0) := by
            first | (simp only [mUn, if_neg c_5, if_neg c_13, if_pos c_19]; done) | rfl
          have hP9 : va_P (dC, dI) kcl [(q, .inr (5, [.int (mUn it al dg p1).2, .ref tx, .int (nI mz), .int fl, .int (bI it), .long al, .ref pt, .int (nI dg), .ref ot, .int (nI wr), .int (nI kz), .ref ka, .ref kd, .ref kp, .int (nI ma), .int (bI wg)]))] H := by
            try rw [hF9]
            exact hP.sub [0] rfl
          have hD9 : va_D A [(q, .inr (5, [.int (mUn it al dg p1).2, .ref tx, .int (nI mz), .int fl, .int (bI it), .long al, .ref pt, .int (nI dg), .ref ot, .int (nI wr), .int (nI kz), .ref ka, .ref kd, .ref kp, .int (nI ma), .int (bI wg)]))] := by
            try rw [hF9]
            exact hD.sub [0] (by decide) rfl
          have hv9 : mUnit al dg p1 = (mUn it al dg p1).1 := by
            try rw [hF9]
            try rfl
          exact kc_iret hx hb hr hlocks hv9 hP9 hD9 hS dX5_unit_46
        · exact absurd (by decide) c_34
      · refine lv_iconst (v := 2) hx hb dX5_unit_22 (by decide) ?_
        refine lv_goto (tgt := 27) hx hb dX5_unit_23 (by decide) ?_
        refine va_put (D := (dC, dI)) (ci := 5) (v := .int 2) (ty := .int) (C := RX5) (T := TX5) (N := 16) hx hb hts kin_5 tyX5 tyX5_ok nmX5 hown hK hP hD hS 0 rfl rfl 0 (by decide) (hts _ (kcm kwm_204)) (fun _ h9 => h9) rfl (by decide +kernel) rfl rfl (Nat.le_of_ble_eq_true rfl) dX5_unit_27 (fun H locs hP hD hS => ?_)
        have hP : va_P (dC, dI) kcl [(q, .inr (5, [.int 2, .ref tx, .int (nI mz), .int fl, .int (bI it), .long al, .ref pt, .int (nI dg), .ref ot, .int (nI wr), .int (nI kz), .ref ka, .ref kd, .ref kp, .int (nI ma), .int (bI wg)]))] H := hP
        have hD : va_D A [(q, .inr (5, [.int 2, .ref tx, .int (nI mz), .int fl, .int (bI it), .long al, .ref pt, .int (nI dg), .ref ot, .int (nI wr), .int (nI kz), .ref ka, .ref kd, .ref kp, .int (nI ma), .int (bI wg)]))] := hD
        refine lv_aload_n hx hb dX5_unit_30 rfl (lv_at hl 0 rfl) ?_
        refine va_get (D := (dC, dI)) (ci := 5) (v := .int 2) (C := RX5) (T := TX5) (N := 16) hx hb hts kin_5 hown hK hP 0 rfl rfl 0 (by decide) (hts _ (kcm kwm_204)) (fun _ h9 => h9) rfl dX5_unit_31 ?_
        refine lv_if_le (tgt := 41) hx hb dX5_unit_34 (by decide) (fun c_34 => ?_) (fun c_34 => ?_)
        · exact absurd c_34 (by decide)
        · refine lv_iconst (v := 0) hx hb dX5_unit_37 (by decide) ?_
          refine lv_goto (tgt := 46) hx hb dX5_unit_38 (by decide) ?_
          have hF9 : mUn it al dg p1 = (0, 2) := by
            first | (simp only [mUn, if_neg c_5, if_neg c_13, if_neg c_19]; done) | rfl
          have hP9 : va_P (dC, dI) kcl [(q, .inr (5, [.int (mUn it al dg p1).2, .ref tx, .int (nI mz), .int fl, .int (bI it), .long al, .ref pt, .int (nI dg), .ref ot, .int (nI wr), .int (nI kz), .ref ka, .ref kd, .ref kp, .int (nI ma), .int (bI wg)]))] H := by
            try rw [hF9]
            exact hP.sub [0] rfl
          have hD9 : va_D A [(q, .inr (5, [.int (mUn it al dg p1).2, .ref tx, .int (nI mz), .int fl, .int (bI it), .long al, .ref pt, .int (nI dg), .ref ot, .int (nI wr), .int (nI kz), .ref ka, .ref kd, .ref kp, .int (nI ma), .int (bI wg)]))] := by
            try rw [hF9]
            exact hD.sub [0] (by decide) rfl
          have hv9 : (0 : Int32) = (mUn it al dg p1).1 := by
            try rw [hF9]
            try rfl
          exact kc_iret hx hb hr hlocks hv9 hP9 hD9 hS dX5_unit_46
  · refine lv_iconst (v := 1) hx hb dX5_unit_8 (by decide) ?_
    refine lv_goto (tgt := 27) hx hb dX5_unit_9 (by decide) ?_
    refine va_put (D := (dC, dI)) (ci := 5) (v := .int 1) (ty := .int) (C := RX5) (T := TX5) (N := 16) hx hb hts kin_5 tyX5 tyX5_ok nmX5 hown hK hP hD hS 0 rfl rfl 0 (by decide) (hts _ (kcm kwm_204)) (fun _ h9 => h9) rfl (by decide +kernel) rfl rfl (Nat.le_of_ble_eq_true rfl) dX5_unit_27 (fun H locs hP hD hS => ?_)
    have hP : va_P (dC, dI) kcl [(q, .inr (5, [.int 1, .ref tx, .int (nI mz), .int fl, .int (bI it), .long al, .ref pt, .int (nI dg), .ref ot, .int (nI wr), .int (nI kz), .ref ka, .ref kd, .ref kp, .int (nI ma), .int (bI wg)]))] H := hP
    have hD : va_D A [(q, .inr (5, [.int 1, .ref tx, .int (nI mz), .int fl, .int (bI it), .long al, .ref pt, .int (nI dg), .ref ot, .int (nI wr), .int (nI kz), .ref ka, .ref kd, .ref kp, .int (nI ma), .int (bI wg)]))] := hD
    refine lv_aload_n hx hb dX5_unit_30 rfl (lv_at hl 0 rfl) ?_
    refine va_get (D := (dC, dI)) (ci := 5) (v := .int 1) (C := RX5) (T := TX5) (N := 16) hx hb hts kin_5 hown hK hP 0 rfl rfl 0 (by decide) (hts _ (kcm kwm_204)) (fun _ h9 => h9) rfl dX5_unit_31 ?_
    refine lv_if_le (tgt := 41) hx hb dX5_unit_34 (by decide) (fun c_34 => ?_) (fun c_34 => ?_)
    · exact absurd c_34 (by decide)
    · refine lv_iconst (v := 0) hx hb dX5_unit_37 (by decide) ?_
      refine lv_goto (tgt := 46) hx hb dX5_unit_38 (by decide) ?_
      have hF9 : mUn it al dg p1 = (0, 1) := by
        first | (simp only [mUn, if_pos c_5]; done) | rfl
      have hP9 : va_P (dC, dI) kcl [(q, .inr (5, [.int (mUn it al dg p1).2, .ref tx, .int (nI mz), .int fl, .int (bI it), .long al, .ref pt, .int (nI dg), .ref ot, .int (nI wr), .int (nI kz), .ref ka, .ref kd, .ref kp, .int (nI ma), .int (bI wg)]))] H := by
        try rw [hF9]
        exact hP.sub [0] rfl
      have hD9 : va_D A [(q, .inr (5, [.int (mUn it al dg p1).2, .ref tx, .int (nI mz), .int fl, .int (bI it), .long al, .ref pt, .int (nI dg), .ref ot, .int (nI wr), .int (nI kz), .ref ka, .ref kd, .ref kp, .int (nI ma), .int (bI wg)]))] := by
        try rw [hF9]
        exact hD.sub [0] (by decide) rfl
      have hv9 : (0 : Int32) = (mUn it al dg p1).1 := by
        try rw [hF9]
        try rfl
      exact kc_iret hx hb hr hlocks hv9 hP9 hD9 hS dX5_unit_46
def mCnt (mz wr kz : Nat) (p1 : Int32) : Int32 :=
  if p1 = 0 then
    nI mz
  else
    if p1 = 1 then
      nI wr
    else
      if p1 = 2 then
        nI kz
      else
        (-1)
set_option maxHeartbeats 4000000 in
set_option maxRecDepth 100000 in
theorem m_count (l : Launch) (dC : Nat → ClassId) (dI : Nat → Nat → Nat) (st sz : Nat) (q : Nat) (th : Int32) (tx : Nat) (mz : Nat) (fl : Int32) (it : Bool) (al : Int64) (pt : Nat) (dg : Nat) (ot : Nat) (wr : Nat) (kz : Nat) (ka : Nat) (kd : Nat) (kp : Nat) (ma : Nat) (wg : Bool) (p1 : Int32)  : Met l yX5_count wsX5_count ({ frames := 0, cells := 0, slots := 0, locals := 0 }) (kc_Pc (dC, dI) kcl st sz [.ref q, .int p1] [(q, .inr (5, [.int th, .ref tx, .int (nI mz), .int fl, .int (bI it), .long al, .ref pt, .int (nI dg), .ref ot, .int (nI wr), .int (nI kz), .ref ka, .ref kd, .ref kp, .int (nI ma), .int (bI wg)]))] []) (kc_Qi (dC, dI) kcl (mCnt mz wr kz p1) [(q, .inr (5, [.int 0, .ref tx, .int (nI mz), .int fl, .int (bI it), .long al, .ref pt, .int (nI dg), .ref ot, .int (nI wr), .int (nI kz), .ref ka, .ref kd, .ref kp, .int (nI ma), .int (bI wg)]))] (va_A [(q, .inr (5, [.int th, .ref tx, .int (nI mz), .int fl, .int (bI it), .long al, .ref pt, .int (nI dg), .ref ot, .int (nI wr), .int (nI kz), .ref ka, .ref kd, .ref kp, .int (nI ma), .int (bI wg)]))] sz)) 0 0 (va_A [(q, .inr (5, [.int th, .ref tx, .int (nI mz), .int fl, .int (bI it), .long al, .ref pt, .int (nI dg), .ref ot, .int (nI wr), .int (nI kz), .ref ka, .ref kd, .ref kp, .int (nI ma), .int (bI wg)]))] sz) := by
  refine kc_ofW (Qc := fun A => (kc_Qi (dC, dI) kcl (mCnt mz wr kz p1) [(q, .inr (5, [.int 0, .ref tx, .int (nI mz), .int fl, .int (bI it), .long al, .ref pt, .int (nI dg), .ref ot, .int (nI wr), .int (nI kz), .ref ka, .ref kd, .ref kp, .int (nI ma), .int (bI wg)]))] A)) (cc := cX5_count) (maxL := 2) (ret := (some .int)) (by decide) rfl (Nat.le_of_ble_eq_true rfl) ?_
  intro p e s m below meth c A ls Cx hA hG hK hP hD hS hl
  obtain ⟨hx, hb, hr, hml, hown, hts, hlocks, hnm⟩ := id Cx
  have hl : lv_has ls 2 [(0, .ref q), (1, .int p1)] := hl
  refine lv_aload_n hx hb dX5_count_0 rfl (lv_at hl 0 rfl) ?_
  refine lv_iconst (v := 0) hx hb dX5_count_1 (by decide) ?_
  refine va_put (D := (dC, dI)) (ci := 5) (v := .int 0) (ty := .int) (C := RX5) (T := TX5) (N := 16) hx hb hts kin_5 tyX5 tyX5_ok nmX5 hown hK hP hD hS 0 rfl rfl 0 (by decide) (hts _ (kcm kwm_204)) (fun _ h9 => h9) rfl (by decide +kernel) rfl rfl (Nat.le_of_ble_eq_true rfl) dX5_count_2 (fun H locs hP hD hS => ?_)
  have hP : va_P (dC, dI) kcl [(q, .inr (5, [.int 0, .ref tx, .int (nI mz), .int fl, .int (bI it), .long al, .ref pt, .int (nI dg), .ref ot, .int (nI wr), .int (nI kz), .ref ka, .ref kd, .ref kp, .int (nI ma), .int (bI wg)]))] H := hP
  have hD : va_D A [(q, .inr (5, [.int 0, .ref tx, .int (nI mz), .int fl, .int (bI it), .long al, .ref pt, .int (nI dg), .ref ot, .int (nI wr), .int (nI kz), .ref ka, .ref kd, .ref kp, .int (nI ma), .int (bI wg)]))] := hD
  refine lv_iload_n hx hb dX5_count_5 rfl (lv_at hl 1 rfl) ?_
  refine lv_if_ne (tgt := 16) hx hb dX5_count_6 (by decide) (fun c_6 => ?_) (fun c_6 => ?_)
  · refine lv_iload_n hx hb dX5_count_16 rfl (lv_at hl 1 rfl) ?_
    refine lv_iconst (v := 1) hx hb dX5_count_17 (by decide) ?_
    refine lv_icmp_ne (tgt := 28) hx hb dX5_count_18 (by decide) (fun c_18 => ?_) (fun c_18 => ?_)
    · refine lv_iload_n hx hb dX5_count_28 rfl (lv_at hl 1 rfl) ?_
      refine lv_iconst (v := 2) hx hb dX5_count_29 (by decide) ?_
      refine lv_icmp_ne (tgt := 40) hx hb dX5_count_30 (by decide) (fun c_30 => ?_) (fun c_30 => ?_)
      · refine lv_iconst (v := (-1)) hx hb dX5_count_40 (by decide) ?_
        have hF9 : mCnt mz wr kz p1 = (-1) := by
          first | (simp only [mCnt, if_neg c_6, if_neg c_18, if_neg c_30]; done) | rfl
        have hP9 : va_P (dC, dI) kcl [(q, .inr (5, [.int 0, .ref tx, .int (nI mz), .int fl, .int (bI it), .long al, .ref pt, .int (nI dg), .ref ot, .int (nI wr), .int (nI kz), .ref ka, .ref kd, .ref kp, .int (nI ma), .int (bI wg)]))] H := by
          try rw [hF9]
          exact hP.sub [0] rfl
        have hD9 : va_D A [(q, .inr (5, [.int 0, .ref tx, .int (nI mz), .int fl, .int (bI it), .long al, .ref pt, .int (nI dg), .ref ot, .int (nI wr), .int (nI kz), .ref ka, .ref kd, .ref kp, .int (nI ma), .int (bI wg)]))] := by
          try rw [hF9]
          exact hD.sub [0] (by decide) rfl
        have hv9 : ((-1) : Int32) = mCnt mz wr kz p1 := by
          try rw [hF9]
          try rfl
        exact kc_iret hx hb hr hlocks hv9 hP9 hD9 hS dX5_count_41
      · refine lv_aload_n hx hb dX5_count_33 rfl (lv_at hl 0 rfl) ?_
        refine va_get (D := (dC, dI)) (ci := 5) (v := .int (nI kz)) (C := RX5) (T := TX5) (N := 16) hx hb hts kin_5 hown hK hP 0 rfl rfl 10 (by decide) (hts _ (kcm kwm_290)) (fun _ h9 => h9) rfl dX5_count_34 ?_
        refine lv_goto (tgt := 41) hx hb dX5_count_37 (by decide) ?_
        have hF9 : mCnt mz wr kz p1 = nI kz := by
          first | (simp only [mCnt, if_neg c_6, if_neg c_18, if_pos c_30]; done) | rfl
        have hP9 : va_P (dC, dI) kcl [(q, .inr (5, [.int 0, .ref tx, .int (nI mz), .int fl, .int (bI it), .long al, .ref pt, .int (nI dg), .ref ot, .int (nI wr), .int (nI kz), .ref ka, .ref kd, .ref kp, .int (nI ma), .int (bI wg)]))] H := by
          try rw [hF9]
          exact hP.sub [0] rfl
        have hD9 : va_D A [(q, .inr (5, [.int 0, .ref tx, .int (nI mz), .int fl, .int (bI it), .long al, .ref pt, .int (nI dg), .ref ot, .int (nI wr), .int (nI kz), .ref ka, .ref kd, .ref kp, .int (nI ma), .int (bI wg)]))] := by
          try rw [hF9]
          exact hD.sub [0] (by decide) rfl
        have hv9 : nI kz = mCnt mz wr kz p1 := by
          try rw [hF9]
          try rfl
        exact kc_iret hx hb hr hlocks hv9 hP9 hD9 hS dX5_count_41
    · refine lv_aload_n hx hb dX5_count_21 rfl (lv_at hl 0 rfl) ?_
      refine va_get (D := (dC, dI)) (ci := 5) (v := .int (nI wr)) (C := RX5) (T := TX5) (N := 16) hx hb hts kin_5 hown hK hP 0 rfl rfl 9 (by decide) (hts _ (kcm kwm_271)) (fun _ h9 => h9) rfl dX5_count_22 ?_
      refine lv_goto (tgt := 41) hx hb dX5_count_25 (by decide) ?_
      have hF9 : mCnt mz wr kz p1 = nI wr := by
        first | (simp only [mCnt, if_neg c_6, if_pos c_18]; done) | rfl
      have hP9 : va_P (dC, dI) kcl [(q, .inr (5, [.int 0, .ref tx, .int (nI mz), .int fl, .int (bI it), .long al, .ref pt, .int (nI dg), .ref ot, .int (nI wr), .int (nI kz), .ref ka, .ref kd, .ref kp, .int (nI ma), .int (bI wg)]))] H := by
        try rw [hF9]
        exact hP.sub [0] rfl
      have hD9 : va_D A [(q, .inr (5, [.int 0, .ref tx, .int (nI mz), .int fl, .int (bI it), .long al, .ref pt, .int (nI dg), .ref ot, .int (nI wr), .int (nI kz), .ref ka, .ref kd, .ref kp, .int (nI ma), .int (bI wg)]))] := by
        try rw [hF9]
        exact hD.sub [0] (by decide) rfl
      have hv9 : nI wr = mCnt mz wr kz p1 := by
        try rw [hF9]
        try rfl
      exact kc_iret hx hb hr hlocks hv9 hP9 hD9 hS dX5_count_41
  · refine lv_aload_n hx hb dX5_count_9 rfl (lv_at hl 0 rfl) ?_
    refine va_get (D := (dC, dI)) (ci := 5) (v := .int (nI mz)) (C := RX5) (T := TX5) (N := 16) hx hb hts kin_5 hown hK hP 0 rfl rfl 2 (by decide) (hts _ (kcm kwm_206)) (fun _ h9 => h9) rfl dX5_count_10 ?_
    refine lv_goto (tgt := 41) hx hb dX5_count_13 (by decide) ?_
    have hF9 : mCnt mz wr kz p1 = nI mz := by
      first | (simp only [mCnt, if_pos c_6]; done) | rfl
    have hP9 : va_P (dC, dI) kcl [(q, .inr (5, [.int 0, .ref tx, .int (nI mz), .int fl, .int (bI it), .long al, .ref pt, .int (nI dg), .ref ot, .int (nI wr), .int (nI kz), .ref ka, .ref kd, .ref kp, .int (nI ma), .int (bI wg)]))] H := by
      try rw [hF9]
      exact hP.sub [0] rfl
    have hD9 : va_D A [(q, .inr (5, [.int 0, .ref tx, .int (nI mz), .int fl, .int (bI it), .long al, .ref pt, .int (nI dg), .ref ot, .int (nI wr), .int (nI kz), .ref ka, .ref kd, .ref kp, .int (nI ma), .int (bI wg)]))] := by
      try rw [hF9]
      exact hD.sub [0] (by decide) rfl
    have hv9 : nI mz = mCnt mz wr kz p1 := by
      try rw [hF9]
      try rfl
    exact kc_iret hx hb hr hlocks hv9 hP9 hD9 hS dX5_count_41
def mKept (kz : Nat) (p1 : Int32) : Bool :=
  if p1 < 0 then
    false
  else
    if (nI kz) ≤ p1 then
      false
    else
      true
set_option maxHeartbeats 4000000 in
set_option maxRecDepth 100000 in
theorem m_isKept (l : Launch) (dC : Nat → ClassId) (dI : Nat → Nat → Nat) (st sz : Nat) (q : Nat) (th : Int32) (tx : Nat) (mz : Nat) (fl : Int32) (it : Bool) (al : Int64) (pt : Nat) (dg : Nat) (ot : Nat) (wr : Nat) (kz : Nat) (ka : Nat) (kd : Nat) (kp : Nat) (ma : Nat) (wg : Bool) (p1 : Int32)  : Met l yX5_isKept wsX5_isKept ({ frames := 0, cells := 0, slots := 0, locals := 0 }) (kc_Pc (dC, dI) kcl st sz [.ref q, .int p1] [(q, .inr (5, [.int th, .ref tx, .int (nI mz), .int fl, .int (bI it), .long al, .ref pt, .int (nI dg), .ref ot, .int (nI wr), .int (nI kz), .ref ka, .ref kd, .ref kp, .int (nI ma), .int (bI wg)]))] []) (vp_Si (fun r => r = bI (mKept kz p1))) 0 0 (fun _ => False) := by
  refine kc_ofS (cc := cX5_isKept) (maxL := 2) (ret := (some .boolean)) (by decide) rfl (Nat.le_of_ble_eq_true rfl) ?_
  intro p e s m below meth c A ls Cx hA hG hK hP hD hS hl
  obtain ⟨hx, hb, hr, hml, hown, hts, hlocks, hnm⟩ := id Cx
  have hl : lv_has ls 2 [(0, .ref q), (1, .int p1)] := hl
  refine lv_iload_n hx hb dX5_isKept_0 rfl (lv_at hl 1 rfl) ?_
  refine lv_if_lt (tgt := 16) hx hb dX5_isKept_1 (by decide) (fun c_1 => ?_) (fun c_1 => ?_)
  · refine lv_iconst (v := 0) hx hb dX5_isKept_16 (by decide) ?_
    have hF9 : mKept kz p1 = false := by
      first | (simp only [mKept, if_pos c_1]; done) | rfl
    have hv9 : (0 : Int32) = bI (mKept kz p1) := by
      try rw [hF9]
      try rfl
    exact kc_Szret hx hb hr hlocks hv9 (bI_nar hv9) dX5_isKept_17
  · refine lv_iload_n hx hb dX5_isKept_4 rfl (lv_at hl 1 rfl) ?_
    refine lv_aload_n hx hb dX5_isKept_5 rfl (lv_at hl 0 rfl) ?_
    refine va_get (D := (dC, dI)) (ci := 5) (v := .int (nI kz)) (C := RX5) (T := TX5) (N := 16) hx hb hts kin_5 hown hK hP 0 rfl rfl 10 (by decide) (hts _ (kcm kwm_290)) (fun _ h9 => h9) rfl dX5_isKept_6 ?_
    refine lv_icmp_ge (tgt := 16) hx hb dX5_isKept_9 (by decide) (fun c_9 => ?_) (fun c_9 => ?_)
    · refine lv_iconst (v := 0) hx hb dX5_isKept_16 (by decide) ?_
      have hF9 : mKept kz p1 = false := by
        first | (simp only [mKept, if_neg c_1, if_pos c_9]; done) | rfl
      have hv9 : (0 : Int32) = bI (mKept kz p1) := by
        try rw [hF9]
        try rfl
      exact kc_Szret hx hb hr hlocks hv9 (bI_nar hv9) dX5_isKept_17
    · refine lv_iconst (v := 1) hx hb dX5_isKept_12 (by decide) ?_
      refine lv_goto (tgt := 17) hx hb dX5_isKept_13 (by decide) ?_
      have hF9 : mKept kz p1 = true := by
        first | (simp only [mKept, if_neg c_1, if_neg c_9]; done) | rfl
      have hv9 : (1 : Int32) = bI (mKept kz p1) := by
        try rw [hF9]
        try rfl
      exact kc_Szret hx hb hr hlocks hv9 (bI_nar hv9) dX5_isKept_17
