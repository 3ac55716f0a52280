abbrev cX5_readLong : ByteArray := prog_7_method_18_code
def yX5_readLong : MethodName := ⟨RX5, "readLong", "()I"⟩
abbrev cX5_readShort : ByteArray := prog_7_method_19_code
def yX5_readShort : MethodName := ⟨RX5, "readShort", "()I"⟩
abbrev cX5_readZone : ByteArray := prog_7_method_20_code
def yX5_readZone : MethodName := ⟨RX5, "readZone", "(I)I"⟩
abbrev wsX5_readLong : List Cond := .code yX5_readLong cX5_readLong 3 (some .int) :: kw
abbrev wsX5_readShort : List Cond := .code yX5_readShort cX5_readShort 2 (some .int) :: kw
abbrev wsX5_readZone : List Cond := .code yX5_readZone cX5_readZone 4 (some .int) :: kw
theorem kwm_238 : (.code yX5_readPart cX5_readPart 5 (some .int) : Cond) ∈ kw := kw_in (i := 635) (by decide +kernel) (by decide +kernel)
theorem kwm_239 : (.methodLink RX5 85 yX5_readPart : Cond) ∈ kw := kw_in (i := 632) (by decide +kernel) (by decide +kernel)
theorem kwm_240 : (.instanceMethod yX5_readPart : Cond) ∈ kw := kw_in (i := 634) (by decide +kernel) (by decide +kernel)
theorem kwm_241 : (.selects RX5 yX5_readPart yX5_readPart : Cond) ∈ kw := kw_in (i := 23) (by decide +kernel) (by decide +kernel)
theorem kwm_242 : (.code yX5_two cX5_two 4 (some .int) : Cond) ∈ kw := kw_in (i := 617) (by decide +kernel) (by decide +kernel)
theorem kwm_243 : (.methodLink RX5 82 yX5_two : Cond) ∈ kw := kw_in (i := 614) (by decide +kernel) (by decide +kernel)
theorem kwm_244 : (.instanceMethod yX5_two : Cond) ∈ kw := kw_in (i := 616) (by decide +kernel) (by decide +kernel)
theorem kwm_245 : (.selects RX5 yX5_two yX5_two : Cond) ∈ kw := kw_in (i := 20) (by decide +kernel) (by decide +kernel)
theorem dX5_readLong_0 : decode cX5_readLong 0 = .ok (.iconst 0, 1) := by decide +kernel
theorem dX5_readLong_1 : decode cX5_readLong 1 = .ok (.istore_n 1, 1) := by decide +kernel
theorem dX5_readLong_2 : decode cX5_readLong 2 = .ok (.sipush 3600, 3) := by decide +kernel
theorem dX5_readLong_5 : decode cX5_readLong 5 = .ok (.istore_n 2, 1) := by decide +kernel
theorem dX5_readLong_6 : decode cX5_readLong 6 = .ok (.aload_n 0, 1) := by decide +kernel
theorem dX5_readLong_7 : decode cX5_readLong 7 = .ok (.invokevirtual 72, 3) := by decide +kernel
theorem dX5_readLong_10 : decode cX5_readLong 10 = .ok (.ifCond .eq 36, 3) := by decide +kernel
theorem dX5_readLong_13 : decode cX5_readLong 13 = .ok (.bipush 60, 2) := by decide +kernel
theorem dX5_readLong_15 : decode cX5_readLong 15 = .ok (.aload_n 0, 1) := by decide +kernel
theorem dX5_readLong_16 : decode cX5_readLong 16 = .ok (.iconst 0, 1) := by decide +kernel
theorem dX5_readLong_17 : decode cX5_readLong 17 = .ok (.bipush 59, 2) := by decide +kernel
theorem dX5_readLong_19 : decode cX5_readLong 19 = .ok (.invokevirtual 82, 3) := by decide +kernel
theorem dX5_readLong_22 : decode cX5_readLong 22 = .ok (.imul, 1) := by decide +kernel
theorem dX5_readLong_23 : decode cX5_readLong 23 = .ok (.istore_n 1, 1) := by decide +kernel
theorem dX5_readLong_24 : decode cX5_readLong 24 = .ok (.bipush 60, 2) := by decide +kernel
theorem dX5_readLong_26 : decode cX5_readLong 26 = .ok (.istore_n 2, 1) := by decide +kernel
theorem dX5_readLong_27 : decode cX5_readLong 27 = .ok (.aload_n 0, 1) := by decide +kernel
theorem dX5_readLong_28 : decode cX5_readLong 28 = .ok (.invokevirtual 72, 3) := by decide +kernel
theorem dX5_readLong_31 : decode cX5_readLong 31 = .ok (.ifCond .eq 15, 3) := by decide +kernel
theorem dX5_readLong_34 : decode cX5_readLong 34 = .ok (.iload_n 1, 1) := by decide +kernel
theorem dX5_readLong_35 : decode cX5_readLong 35 = .ok (.aload_n 0, 1) := by decide +kernel
theorem dX5_readLong_36 : decode cX5_readLong 36 = .ok (.iconst 0, 1) := by decide +kernel
theorem dX5_readLong_37 : decode cX5_readLong 37 = .ok (.bipush 59, 2) := by decide +kernel
theorem dX5_readLong_39 : decode cX5_readLong 39 = .ok (.invokevirtual 82, 3) := by decide +kernel
theorem dX5_readLong_42 : decode cX5_readLong 42 = .ok (.iadd, 1) := by decide +kernel
theorem dX5_readLong_43 : decode cX5_readLong 43 = .ok (.istore_n 1, 1) := by decide +kernel
theorem dX5_readLong_44 : decode cX5_readLong 44 = .ok (.iconst 1, 1) := by decide +kernel
theorem dX5_readLong_45 : decode cX5_readLong 45 = .ok (.istore_n 2, 1) := by decide +kernel
theorem dX5_readLong_46 : decode cX5_readLong 46 = .ok (.aload_n 0, 1) := by decide +kernel
theorem dX5_readLong_47 : decode cX5_readLong 47 = .ok (.getfield 68, 3) := by decide +kernel
theorem dX5_readLong_50 : decode cX5_readLong 50 = .ok (.ifCond .ne 50, 3) := by decide +kernel
theorem dX5_readLong_53 : decode cX5_readLong 53 = .ok (.aload_n 0, 1) := by decide +kernel
theorem dX5_readLong_54 : decode cX5_readLong 54 = .ok (.getfield 65, 3) := by decide +kernel
theorem dX5_readLong_57 : decode cX5_readLong 57 = .ok (.aload_n 0, 1) := by decide +kernel
theorem dX5_readLong_58 : decode cX5_readLong 58 = .ok (.getfield 33, 3) := by decide +kernel
theorem dX5_readLong_61 : decode cX5_readLong 61 = .ok (.if_icmp .ge 39, 3) := by decide +kernel
theorem dX5_readLong_64 : decode cX5_readLong 64 = .ok (.aload_n 0, 1) := by decide +kernel
theorem dX5_readLong_65 : decode cX5_readLong 65 = .ok (.getfield 7, 3) := by decide +kernel
theorem dX5_readLong_68 : decode cX5_readLong 68 = .ok (.aload_n 0, 1) := by decide +kernel
theorem dX5_readLong_69 : decode cX5_readLong 69 = .ok (.getfield 65, 3) := by decide +kernel
theorem dX5_readLong_72 : decode cX5_readLong 72 = .ok (.iaload, 1) := by decide +kernel
theorem dX5_readLong_73 : decode cX5_readLong 73 = .ok (.bipush 46, 2) := by decide +kernel
theorem dX5_readLong_75 : decode cX5_readLong 75 = .ok (.if_icmp .eq 17, 3) := by decide +kernel
theorem dX5_readLong_78 : decode cX5_readLong 78 = .ok (.aload_n 0, 1) := by decide +kernel
theorem dX5_readLong_79 : decode cX5_readLong 79 = .ok (.getfield 7, 3) := by decide +kernel
theorem dX5_readLong_82 : decode cX5_readLong 82 = .ok (.aload_n 0, 1) := by decide +kernel
theorem dX5_readLong_83 : decode cX5_readLong 83 = .ok (.getfield 65, 3) := by decide +kernel
theorem dX5_readLong_86 : decode cX5_readLong 86 = .ok (.iaload, 1) := by decide +kernel
theorem dX5_readLong_87 : decode cX5_readLong 87 = .ok (.bipush 44, 2) := by decide +kernel
theorem dX5_readLong_89 : decode cX5_readLong 89 = .ok (.if_icmp .ne 11, 3) := by decide +kernel
theorem dX5_readLong_92 : decode cX5_readLong 92 = .ok (.iload_n 1, 1) := by decide +kernel
theorem dX5_readLong_93 : decode cX5_readLong 93 = .ok (.aload_n 0, 1) := by decide +kernel
theorem dX5_readLong_94 : decode cX5_readLong 94 = .ok (.iload_n 2, 1) := by decide +kernel
theorem dX5_readLong_95 : decode cX5_readLong 95 = .ok (.invokevirtual 85, 3) := by decide +kernel
theorem dX5_readLong_98 : decode cX5_readLong 98 = .ok (.iadd, 1) := by decide +kernel
theorem dX5_readLong_99 : decode cX5_readLong 99 = .ok (.istore_n 1, 1) := by decide +kernel
theorem dX5_readLong_100 : decode cX5_readLong 100 = .ok (.iload_n 1, 1) := by decide +kernel
theorem dX5_readLong_101 : decode cX5_readLong 101 = .ok (.ireturn, 1) := by decide +kernel
theorem dX5_readShort_0 : decode cX5_readShort 0 = .ok (.bipush 60, 2) := by decide +kernel
theorem dX5_readShort_2 : decode cX5_readShort 2 = .ok (.aload_n 0, 1) := by decide +kernel
theorem dX5_readShort_3 : decode cX5_readShort 3 = .ok (.iconst 0, 1) := by decide +kernel
theorem dX5_readShort_4 : decode cX5_readShort 4 = .ok (.bipush 59, 2) := by decide +kernel
theorem dX5_readShort_6 : decode cX5_readShort 6 = .ok (.invokevirtual 82, 3) := by decide +kernel
theorem dX5_readShort_9 : decode cX5_readShort 9 = .ok (.imul, 1) := by decide +kernel
theorem dX5_readShort_10 : decode cX5_readShort 10 = .ok (.istore_n 1, 1) := by decide +kernel
theorem dX5_readShort_11 : decode cX5_readShort 11 = .ok (.aload_n 0, 1) := by decide +kernel
theorem dX5_readShort_12 : decode cX5_readShort 12 = .ok (.invokevirtual 72, 3) := by decide +kernel
theorem dX5_readShort_15 : decode cX5_readShort 15 = .ok (.ifCond .eq 15, 3) := by decide +kernel
theorem dX5_readShort_18 : decode cX5_readShort 18 = .ok (.iload_n 1, 1) := by decide +kernel
theorem dX5_readShort_19 : decode cX5_readShort 19 = .ok (.aload_n 0, 1) := by decide +kernel
theorem dX5_readShort_20 : decode cX5_readShort 20 = .ok (.iconst 0, 1) := by decide +kernel
theorem dX5_readShort_21 : decode cX5_readShort 21 = .ok (.bipush 59, 2) := by decide +kernel
theorem dX5_readShort_23 : decode cX5_readShort 23 = .ok (.invokevirtual 82, 3) := by decide +kernel
theorem dX5_readShort_26 : decode cX5_readShort 26 = .ok (.iadd, 1) := by decide +kernel
theorem dX5_readShort_27 : decode cX5_readShort 27 = .ok (.goto 4, 3) := by decide +kernel
theorem dX5_readShort_30 : decode cX5_readShort 30 = .ok (.iload_n 1, 1) := by decide +kernel
theorem dX5_readShort_31 : decode cX5_readShort 31 = .ok (.ireturn, 1) := by decide +kernel
theorem dX5_readZone_0 : decode cX5_readZone 0 = .ok (.aload_n 0, 1) := by decide +kernel
theorem dX5_readZone_1 : decode cX5_readZone 1 = .ok (.getfield 65, 3) := by decide +kernel
theorem dX5_readZone_4 : decode cX5_readZone 4 = .ok (.aload_n 0, 1) := by decide +kernel
theorem dX5_readZone_5 : decode cX5_readZone 5 = .ok (.getfield 33, 3) := by decide +kernel
theorem dX5_readZone_8 : decode cX5_readZone 8 = .ok (.if_icmp .ge 15, 3) := by decide +kernel
theorem dX5_readZone_11 : decode cX5_readZone 11 = .ok (.aload_n 0, 1) := by decide +kernel
theorem dX5_readZone_12 : decode cX5_readZone 12 = .ok (.getfield 7, 3) := by decide +kernel
theorem dX5_readZone_15 : decode cX5_readZone 15 = .ok (.aload_n 0, 1) := by decide +kernel
theorem dX5_readZone_16 : decode cX5_readZone 16 = .ok (.getfield 65, 3) := by decide +kernel
theorem dX5_readZone_19 : decode cX5_readZone 19 = .ok (.iaload, 1) := by decide +kernel
theorem dX5_readZone_20 : decode cX5_readZone 20 = .ok (.goto 4, 3) := by decide +kernel
theorem dX5_readZone_23 : decode cX5_readZone 23 = .ok (.iconst 0, 1) := by decide +kernel
theorem dX5_readZone_24 : decode cX5_readZone 24 = .ok (.istore_n 2, 1) := by decide +kernel
theorem dX5_readZone_25 : decode cX5_readZone 25 = .ok (.aload_n 0, 1) := by decide +kernel
theorem dX5_readZone_26 : decode cX5_readZone 26 = .ok (.dup, 1) := by decide +kernel
theorem dX5_readZone_27 : decode cX5_readZone 27 = .ok (.getfield 65, 3) := by decide +kernel
theorem dX5_readZone_30 : decode cX5_readZone 30 = .ok (.iconst 1, 1) := by decide +kernel
theorem dX5_readZone_31 : decode cX5_readZone 31 = .ok (.iadd, 1) := by decide +kernel
theorem dX5_readZone_32 : decode cX5_readZone 32 = .ok (.putfield 65, 3) := by decide +kernel
theorem dX5_readZone_35 : decode cX5_readZone 35 = .ok (.iload_n 2, 1) := by decide +kernel
theorem dX5_readZone_36 : decode cX5_readZone 36 = .ok (.bipush 90, 2) := by decide +kernel
theorem dX5_readZone_38 : decode cX5_readZone 38 = .ok (.if_icmp .ne 5, 3) := by decide +kernel
theorem dX5_readZone_41 : decode cX5_readZone 41 = .ok (.iconst 0, 1) := by decide +kernel
theorem dX5_readZone_42 : decode cX5_readZone 42 = .ok (.ireturn, 1) := by decide +kernel
theorem dX5_readZone_43 : decode cX5_readZone 43 = .ok (.aload_n 0, 1) := by decide +kernel
theorem dX5_readZone_44 : decode cX5_readZone 44 = .ok (.aload_n 0, 1) := by decide +kernel
theorem dX5_readZone_45 : decode cX5_readZone 45 = .ok (.getfield 68, 3) := by decide +kernel
theorem dX5_readZone_48 : decode cX5_readZone 48 = .ok (.ifCond .ne 15, 3) := by decide +kernel
theorem dX5_readZone_51 : decode cX5_readZone 51 = .ok (.iload_n 2, 1) := by decide +kernel
theorem dX5_readZone_52 : decode cX5_readZone 52 = .ok (.bipush 43, 2) := by decide +kernel
theorem dX5_readZone_54 : decode cX5_readZone 54 = .ok (.if_icmp .eq 13, 3) := by decide +kernel
theorem dX5_readZone_57 : decode cX5_readZone 57 = .ok (.iload_n 2, 1) := by decide +kernel
theorem dX5_readZone_58 : decode cX5_readZone 58 = .ok (.bipush 45, 2) := by decide +kernel
theorem dX5_readZone_60 : decode cX5_readZone 60 = .ok (.if_icmp .eq 7, 3) := by decide +kernel
theorem dX5_readZone_63 : decode cX5_readZone 63 = .ok (.iconst 1, 1) := by decide +kernel
theorem dX5_readZone_64 : decode cX5_readZone 64 = .ok (.goto 4, 3) := by decide +kernel
theorem dX5_readZone_67 : decode cX5_readZone 67 = .ok (.iconst 0, 1) := by decide +kernel
theorem dX5_readZone_68 : decode cX5_readZone 68 = .ok (.putfield 68, 3) := by decide +kernel
theorem dX5_readZone_71 : decode cX5_readZone 71 = .ok (.sipush 3600, 3) := by decide +kernel
theorem dX5_readZone_74 : decode cX5_readZone 74 = .ok (.aload_n 0, 1) := by decide +kernel
theorem dX5_readZone_75 : decode cX5_readZone 75 = .ok (.iconst 0, 1) := by decide +kernel
theorem dX5_readZone_76 : decode cX5_readZone 76 = .ok (.bipush 23, 2) := by decide +kernel
theorem dX5_readZone_78 : decode cX5_readZone 78 = .ok (.invokevirtual 82, 3) := by decide +kernel
theorem dX5_readZone_81 : decode cX5_readZone 81 = .ok (.imul, 1) := by decide +kernel
theorem dX5_readZone_82 : decode cX5_readZone 82 = .ok (.istore_n 3, 1) := by decide +kernel
theorem dX5_readZone_83 : decode cX5_readZone 83 = .ok (.iload_n 1, 1) := by decide +kernel
theorem dX5_readZone_84 : decode cX5_readZone 84 = .ok (.ifCond .eq 10, 3) := by decide +kernel
theorem dX5_readZone_87 : decode cX5_readZone 87 = .ok (.aload_n 0, 1) := by decide +kernel
theorem dX5_readZone_88 : decode cX5_readZone 88 = .ok (.invokevirtual 72, 3) := by decide +kernel
theorem dX5_readZone_91 : decode cX5_readZone 91 = .ok (.ifCond .eq 16, 3) := by decide +kernel
theorem dX5_readZone_94 : decode cX5_readZone 94 = .ok (.iload_n 3, 1) := by decide +kernel
theorem dX5_readZone_95 : decode cX5_readZone 95 = .ok (.bipush 60, 2) := by decide +kernel
theorem dX5_readZone_97 : decode cX5_readZone 97 = .ok (.aload_n 0, 1) := by decide +kernel
theorem dX5_readZone_98 : decode cX5_readZone 98 = .ok (.iconst 0, 1) := by decide +kernel
theorem dX5_readZone_99 : decode cX5_readZone 99 = .ok (.bipush 59, 2) := by decide +kernel
theorem dX5_readZone_101 : decode cX5_readZone 101 = .ok (.invokevirtual 82, 3) := by decide +kernel
theorem dX5_readZone_104 : decode cX5_readZone 104 = .ok (.imul, 1) := by decide +kernel
theorem dX5_readZone_105 : decode cX5_readZone 105 = .ok (.iadd, 1) := by decide +kernel
theorem dX5_readZone_106 : decode cX5_readZone 106 = .ok (.istore_n 3, 1) := by decide +kernel
theorem dX5_readZone_107 : decode cX5_readZone 107 = .ok (.iload_n 2, 1) := by decide +kernel
theorem dX5_readZone_108 : decode cX5_readZone 108 = .ok (.bipush 43, 2) := by decide +kernel
theorem dX5_readZone_110 : decode cX5_readZone 110 = .ok (.if_icmp .ne 7, 3) := by decide +kernel
theorem dX5_readZone_113 : decode cX5_readZone 113 = .ok (.iload_n 3, 1) := by decide +kernel
theorem dX5_readZone_114 : decode cX5_readZone 114 = .ok (.goto 6, 3) := by decide +kernel
theorem dX5_readZone_117 : decode cX5_readZone 117 = .ok (.iconst 0, 1) := by decide +kernel
theorem dX5_readZone_118 : decode cX5_readZone 118 = .ok (.iload_n 3, 1) := by decide +kernel
theorem dX5_readZone_119 : decode cX5_readZone 119 = .ok (.isub, 1) := by decide +kernel
theorem dX5_readZone_120 : decode cX5_readZone 120 = .ok (.ireturn, 1) := by decide +kernel
def mLong (X : Nat → Int32) (mz ma : Nat) (wg : Bool) (PD : Nat → Int32) (dg : Nat) : Int32 × Nat × Bool × (Nat → Int32) × Nat :=
  if (bI (mDig X mz ma)) = 0 then
    if (bI wg) = 0 then
      if (nI mz) ≤ (nI ma) then
        (0, ma, wg, PD, dg)
      else
        if (X ma) = 46 then
          let v_95 := mRp X mz ma wg PD dg 3600
          (0 + v_95.1, v_95.2.1, v_95.2.2.1, v_95.2.2.2.1, v_95.2.2.2.2)
        else
          if (X ma) = 44 then
            let v_95 := mRp X mz ma wg PD dg 3600
            (0 + v_95.1, v_95.2.1, v_95.2.2.1, v_95.2.2.2.1, v_95.2.2.2.2)
          else
            (0, ma, wg, PD, dg)
    else
      (0, ma, wg, PD, dg)
  else
    let v_19 := mTwo X mz ma wg 0 59
    if (bI (mDig X mz v_19.2.1)) = 0 then
      if (bI v_19.2.2) = 0 then
        if (nI mz) ≤ (nI v_19.2.1) then
          (60 * v_19.1, v_19.2.1, v_19.2.2, PD, dg)
        else
          if (X v_19.2.1) = 46 then
            let v_95 := mRp X mz v_19.2.1 v_19.2.2 PD dg 60
            ((60 * v_19.1) + v_95.1, v_95.2.1, v_95.2.2.1, v_95.2.2.2.1, v_95.2.2.2.2)
          else
            if (X v_19.2.1) = 44 then
              let v_95 := mRp X mz v_19.2.1 v_19.2.2 PD dg 60
              ((60 * v_19.1) + v_95.1, v_95.2.1, v_95.2.2.1, v_95.2.2.2.1, v_95.2.2.2.2)
            else
              (60 * v_19.1, v_19.2.1, v_19.2.2, PD, dg)
      else
        (60 * v_19.1, v_19.2.1, v_19.2.2, PD, dg)
    else
      let v_39 := mTwo X mz v_19.2.1 v_19.2.2 0 59
      if (bI v_39.2.2) = 0 then
        if (nI mz) ≤ (nI v_39.2.1) then
          ((60 * v_19.1) + v_39.1, v_39.2.1, v_39.2.2, PD, dg)
        else
          if (X v_39.2.1) = 46 then
            let v_95 := mRp X mz v_39.2.1 v_39.2.2 PD dg 1
            (((60 * v_19.1) + v_39.1) + v_95.1, v_95.2.1, v_95.2.2.1, v_95.2.2.2.1, v_95.2.2.2.2)
          else
            if (X v_39.2.1) = 44 then
              let v_95 := mRp X mz v_39.2.1 v_39.2.2 PD dg 1
              (((60 * v_19.1) + v_39.1) + v_95.1, v_95.2.1, v_95.2.2.1, v_95.2.2.2.1, v_95.2.2.2.2)
            else
              ((60 * v_19.1) + v_39.1, v_39.2.1, v_39.2.2, PD, dg)
      else
        ((60 * v_19.1) + v_39.1, v_39.2.1, v_39.2.2, PD, dg)
set_option maxHeartbeats 4000000 in
set_option maxRecDepth 100000 in
theorem m_readLong (l : Launch) (dC : Nat → ClassId) (dI : Nat → Nat → Nat) (st sz : Nat) (q : Nat) (th : Int32) (tx : Nat) (mz : Nat) (fl : Int32) (it : Bool) (al : Int64) (pt : Nat) (dg : Nat) (ot : Nat) (wr : Nat) (kz : Nat) (ka : Nat) (kd : Nat) (kp : Nat) (ma : Nat) (wg : Bool) (c1 : ClassId) (X : Nat → Int32) (c2 : ClassId) (PD : Nat → Int32) (hz : mz ≤ 242) (ha : ma ≤ 700) (hdg : dg = 0) : Met l yX5_readLong wsX5_readLong ({ frames := 3, cells := 0, slots := 0, locals := 66 }) (kc_Pc (dC, dI) kcl st sz [.ref q] [(q, .inr (5, [.int th, .ref tx, .int (nI mz), .int fl, .int (bI it), .long al, .ref pt, .int (nI dg), .ref ot, .int (nI wr), .int (nI kz), .ref ka, .ref kd, .ref kp, .int (nI ma), .int (bI wg)])), (tx, .inl (c1, 256, .inl X)), (pt, .inl (c2, 256, .inl PD))] [(c1, .int), (c2, .int)]) (kc_Qi (dC, dI) kcl (mLong X mz ma wg PD dg).1 [(q, .inr (5, [.int th, .ref tx, .int (nI mz), .int fl, .int (bI it), .long al, .ref pt, .int (nI (mLong X mz ma wg PD dg).2.2.2.2), .ref ot, .int (nI wr), .int (nI kz), .ref ka, .ref kd, .ref kp, .int (nI (mLong X mz ma wg PD dg).2.1), .int (bI (mLong X mz ma wg PD dg).2.2.1)])), (tx, .inl (c1, 256, .inl X)), (pt, .inl (c2, 256, .inl (mLong X mz ma wg PD dg).2.2.2.1))] (va_A [(q, .inr (5, [.int th, .ref tx, .int (nI mz), .int fl, .int (bI it), .long al, .ref pt, .int (nI dg), .ref ot, .int (nI wr), .int (nI kz), .ref ka, .ref kd, .ref kp, .int (nI ma), .int (bI wg)])), (tx, .inl (c1, 256, .inl X)), (pt, .inl (c2, 256, .inl PD))] sz)) 0 0 (va_A [(q, .inr (5, [.int th, .ref tx, .int (nI mz), .int fl, .int (bI it), .long al, .ref pt, .int (nI dg), .ref ot, .int (nI wr), .int (nI kz), .ref ka, .ref kd, .ref kp, .int (nI ma), .int (bI wg)])), (tx, .inl (c1, 256, .inl X)), (pt, .inl (c2, 256, .inl PD))] sz) := by
  refine kc_ofW (Qc := fun A => (kc_Qi (dC, dI) kcl (mLong X mz ma wg PD dg).1 [(q, .inr (5, [.int th, .ref tx, .int (nI mz), .int fl, .int (bI it), .long al, .ref pt, .int (nI (mLong X mz ma wg PD dg).2.2.2.2), .ref ot, .int (nI wr), .int (nI kz), .ref ka, .ref kd, .ref kp, .int (nI (mLong X mz ma wg PD dg).2.1), .int (bI (mLong X mz ma wg PD dg).2.2.1)])), (tx, .inl (c1, 256, .inl X)), (pt, .inl (c2, 256, .inl (mLong X mz ma wg PD dg).2.2.2.1))] A)) (cc := cX5_readLong) (maxL := 3) (ret := (some .int)) (by decide) rfl (Nat.le_of_ble_eq_true rfl) ?_
  intro p e s m below meth c A ls Cx hA hG hK hP hD hS hl
  obtain ⟨hx, hb, hr, hml, hown, hts, hlocks, hnm⟩ := id Cx
  have hl : lv_has ls 3 [(0, .ref q)] := hl
  refine lv_iconst (v := 0) hx hb dX5_readLong_0 (by decide) ?_
  refine lv_istore_n (lv' := [(1, .int 0), (0, .ref q)]) hx hb dX5_readLong_1 rfl hl (by decide) rfl (fun ls hl => ?_)
  refine lv_sipush (v := 3600) hx hb dX5_readLong_2 (by decide) ?_
  refine lv_istore_n (lv' := [(2, .int 3600), (1, .int 0), (0, .ref q)]) hx hb dX5_readLong_5 rfl hl (by decide) rfl (fun ls hl => ?_)
  refine lv_aload_n hx hb dX5_readLong_6 rfl (lv_at hl 2 rfl) ?_
  have hPc := hP.sub (ws' := [(q, .inr (5, [.int th, .ref tx, .int (nI mz), .int fl, .int (bI it), .long al, .ref pt, .int (nI dg), .ref ot, .int (nI wr), .int (nI kz), .ref ka, .ref kd, .ref kp, .int (nI ma), .int (bI wg)])), (tx, .inl (c1, 256, .inl X))]) [0, 1] rfl
  have hDc := hD.sub (ws' := [(q, .inr (5, [.int th, .ref tx, .int (nI mz), .int fl, .int (bI it), .long al, .ref pt, .int (nI dg), .ref ot, .int (nI wr), .int (nI kz), .ref ka, .ref kd, .ref kp, .int (nI ma), .int (bI wg)])), (tx, .inl (c1, 256, .inl X))]) [0, 1] (by decide) rfl
  have hKc := hK.sub (tys' := [(c1, .int)]) [0] rfl
  have hFc := va_free (wc := [(q, .inr (5, [.int th, .ref tx, .int (nI mz), .int fl, .int (bI it), .long al, .ref pt, .int (nI dg), .ref ot, .int (nI wr), .int (nI kz), .ref ka, .ref kd, .ref kp, .int (nI ma), .int (bI wg)])), (tx, .inl (c1, 256, .inl X))]) hD hS hA [0, 1] rfl
  refine kc_callSi (val := bI (mDig X mz ma)) (va_runV (As := []) (rest := []) ⟨hx, hb, hml, hown, hts⟩ (m_isDigit l dC dI st s.heap.size q th tx mz fl it al pt dg ot wr kz ka kd kp ma wg c1 X hz (by omega)) (cwV 0 hts (kwV kwm_228 kwm_229 kwm_230 kwm_203 kwm_227) rfl rfl rfl (by decide +kernel) ⟨Nat.le_of_ble_eq_true rfl, Nat.le_of_ble_eq_true rfl⟩) ⟨kc_blind, va_recv hKc hPc (ci := 5) (q0 := 0) rfl rfl, kc_pre hG hS hFc hKc hPc hDc⟩ rfl rfl hl.1 rfl (lv_room (Nat.le_of_ble_eq_true rfl)) dX5_readLong_7 ⟨Nat.le_of_ble_eq_true rfl, Nat.le_of_ble_eq_true rfl⟩) ?_
  refine lv_if_eq (tgt := 46) hx hb dX5_readLong_10 (by decide) (fun c_10 => ?_) (fun c_10 => ?_)
  · refine lv_aload_n hx hb dX5_readLong_46 rfl (lv_at hl 2 rfl) ?_
    refine va_get (D := (dC, dI)) (ci := 5) (v := .int (bI wg)) (C := RX5) (T := TX5) (N := 16) hx hb hts kin_5 hown hK hP 0 rfl rfl 15 (by decide) (hts _ (kcm kwm_235)) (fun _ h9 => h9) rfl dX5_readLong_47 ?_
    refine lv_if_ne (tgt := 100) hx hb dX5_readLong_50 (by decide) (fun c_50 => ?_) (fun c_50 => ?_)
    · refine lv_iload_n hx hb dX5_readLong_100 rfl (lv_at hl 1 rfl) ?_
      have hF9 : mLong X mz ma wg PD dg = (0, ma, wg, PD, dg) := by
        first | (simp only [mLong, if_pos c_10, if_neg c_50]; done) | rfl
      have hP9 : va_P (dC, dI) kcl [(q, .inr (5, [.int th, .ref tx, .int (nI mz), .int fl, .int (bI it), .long al, .ref pt, .int (nI (mLong X mz ma wg PD dg).2.2.2.2), .ref ot, .int (nI wr), .int (nI kz), .ref ka, .ref kd, .ref kp, .int (nI (mLong X mz ma wg PD dg).2.1), .int (bI (mLong X mz ma wg PD dg).2.2.1)])), (tx, .inl (c1, 256, .inl X)), (pt, .inl (c2, 256, .inl (mLong X mz ma wg PD dg).2.2.2.1))] s.heap := by
        try rw [hF9]
        exact hP.sub [0, 1, 2] rfl
      have hD9 : va_D A [(q, .inr (5, [.int th, .ref tx, .int (nI mz), .int fl, .int (bI it), .long al, .ref pt, .int (nI (mLong X mz ma wg PD dg).2.2.2.2), .ref ot, .int (nI wr), .int (nI kz), .ref ka, .ref kd, .ref kp, .int (nI (mLong X mz ma wg PD dg).2.1), .int (bI (mLong X mz ma wg PD dg).2.2.1)])), (tx, .inl (c1, 256, .inl X)), (pt, .inl (c2, 256, .inl (mLong X mz ma wg PD dg).2.2.2.1))] := by
        try rw [hF9]
        exact hD.sub [0, 1, 2] (by decide) rfl
      have hv9 : (0 : Int32) = (mLong X mz ma wg PD dg).1 := by
        try rw [hF9]
        try rfl
      exact kc_iret hx hb hr hlocks hv9 hP9 hD9 hS dX5_readLong_101
    · refine lv_aload_n hx hb dX5_readLong_53 rfl (lv_at hl 2 rfl) ?_
      refine va_get (D := (dC, dI)) (ci := 5) (v := .int (nI ma)) (C := RX5) (T := TX5) (N := 16) hx hb hts kin_5 hown hK hP 0 rfl rfl 14 (by decide) (hts _ (kcm kwm_226)) (fun _ h9 => h9) rfl dX5_readLong_54 ?_
      refine lv_aload_n hx hb dX5_readLong_57 rfl (lv_at hl 2 rfl) ?_
      refine va_get (D := (dC, dI)) (ci := 5) (v := .int (nI mz)) (C := RX5) (T := TX5) (N := 16) hx hb hts kin_5 hown hK hP 0 rfl rfl 2 (by decide) (hts _ (kcm kwm_206)) (fun _ h9 => h9) rfl dX5_readLong_58 ?_
      refine lv_icmp_ge (tgt := 100) hx hb dX5_readLong_61 (by decide) (fun c_61 => ?_) (fun c_61 => ?_)
      · refine lv_iload_n hx hb dX5_readLong_100 rfl (lv_at hl 1 rfl) ?_
        have hF9 : mLong X mz ma wg PD dg = (0, ma, wg, PD, dg) := by
          first | (simp only [mLong, if_pos c_10, if_pos c_50, if_pos c_61]; done) | rfl
        have hP9 : va_P (dC, dI) kcl [(q, .inr (5, [.int th, .ref tx, .int (nI mz), .int fl, .int (bI it), .long al, .ref pt, .int (nI (mLong X mz ma wg PD dg).2.2.2.2), .ref ot, .int (nI wr), .int (nI kz), .ref ka, .ref kd, .ref kp, .int (nI (mLong X mz ma wg PD dg).2.1), .int (bI (mLong X mz ma wg PD dg).2.2.1)])), (tx, .inl (c1, 256, .inl X)), (pt, .inl (c2, 256, .inl (mLong X mz ma wg PD dg).2.2.2.1))] s.heap := by
          try rw [hF9]
          exact hP.sub [0, 1, 2] rfl
        have hD9 : va_D A [(q, .inr (5, [.int th, .ref tx, .int (nI mz), .int fl, .int (bI it), .long al, .ref pt, .int (nI (mLong X mz ma wg PD dg).2.2.2.2), .ref ot, .int (nI wr), .int (nI kz), .ref ka, .ref kd, .ref kp, .int (nI (mLong X mz ma wg PD dg).2.1), .int (bI (mLong X mz ma wg PD dg).2.2.1)])), (tx, .inl (c1, 256, .inl X)), (pt, .inl (c2, 256, .inl (mLong X mz ma wg PD dg).2.2.2.1))] := by
          try rw [hF9]
          exact hD.sub [0, 1, 2] (by decide) rfl
        have hv9 : (0 : Int32) = (mLong X mz ma wg PD dg).1 := by
          try rw [hF9]
          try rfl
        exact kc_iret hx hb hr hlocks hv9 hP9 hD9 hS dX5_readLong_101
      · refine lv_aload_n hx hb dX5_readLong_64 rfl (lv_at hl 2 rfl) ?_
        refine va_get (D := (dC, dI)) (ci := 5) (v := .ref tx) (C := RX5) (T := TX5) (N := 16) hx hb hts kin_5 hown hK hP 0 rfl rfl 1 (by decide) (hts _ (kcm kwm_205)) (fun _ h9 => h9) rfl dX5_readLong_65 ?_
        refine lv_aload_n hx hb dX5_readLong_68 rfl (lv_at hl 2 rfl) ?_
        refine va_get (D := (dC, dI)) (ci := 5) (v := .int (nI ma)) (C := RX5) (T := TX5) (N := 16) hx hb hts kin_5 hown hK hP 0 rfl rfl 14 (by decide) (hts _ (kcm kwm_226)) (fun _ h9 => h9) rfl dX5_readLong_69 ?_
        refine va_iald hx hb hK hP 1 0 rfl rfl (vp_in_nI (Nat.lt_of_lt_of_le (kb_lt c_61 (by omega)) (by omega)) (by decide)) dX5_readLong_72 ?_
        rw [show (nI ma).toNatClampNeg = ma from nI_clamp (by omega)]
        refine lv_bipush (v := 46) hx hb dX5_readLong_73 (by decide) ?_
        refine lv_icmp_eq (tgt := 92) hx hb dX5_readLong_75 (by decide) (fun c_75 => ?_) (fun c_75 => ?_)
        · refine lv_iload_n hx hb dX5_readLong_92 rfl (lv_at hl 1 rfl) ?_
          refine lv_aload_n hx hb dX5_readLong_93 rfl (lv_at hl 2 rfl) ?_
          refine lv_iload_n hx hb dX5_readLong_94 rfl (lv_at hl 0 rfl) ?_
          have hPc := hP.sub (ws' := [(q, .inr (5, [.int th, .ref tx, .int (nI mz), .int fl, .int (bI it), .long al, .ref pt, .int (nI dg), .ref ot, .int (nI wr), .int (nI kz), .ref ka, .ref kd, .ref kp, .int (nI ma), .int (bI wg)])), (tx, .inl (c1, 256, .inl X)), (pt, .inl (c2, 256, .inl PD))]) [0, 1, 2] rfl
          have hDc := hD.sub (ws' := [(q, .inr (5, [.int th, .ref tx, .int (nI mz), .int fl, .int (bI it), .long al, .ref pt, .int (nI dg), .ref ot, .int (nI wr), .int (nI kz), .ref ka, .ref kd, .ref kp, .int (nI ma), .int (bI wg)])), (tx, .inl (c1, 256, .inl X)), (pt, .inl (c2, 256, .inl PD))]) [0, 1, 2] (by decide) rfl
          have hKc := hK.sub (tys' := [(c1, .int), (c2, .int)]) [0, 1] rfl
          have hFc := va_free (wc := [(q, .inr (5, [.int th, .ref tx, .int (nI mz), .int fl, .int (bI it), .long al, .ref pt, .int (nI dg), .ref ot, .int (nI wr), .int (nI kz), .ref ka, .ref kd, .ref kp, .int (nI ma), .int (bI wg)])), (tx, .inl (c1, 256, .inl X)), (pt, .inl (c2, 256, .inl PD))]) hD hS hA [0, 1, 2] rfl
          refine kc_calli (val := (mRp X mz ma wg PD dg 3600).1) (wr := []) (w1 := [(q, .inr (5, [.int th, .ref tx, .int (nI mz), .int fl, .int (bI it), .long al, .ref pt, .int (nI (mRp X mz ma wg PD dg 3600).2.2.2.2), .ref ot, .int (nI wr), .int (nI kz), .ref ka, .ref kd, .ref kp, .int (nI (mRp X mz ma wg PD dg 3600).2.1), .int (bI (mRp X mz ma wg PD dg 3600).2.2.1)])), (tx, .inl (c1, 256, .inl X)), (pt, .inl (c2, 256, .inl (mRp X mz ma wg PD dg 3600).2.2.2.1))]) (va_runV (As := [.int 3600]) (rest := [.int 0]) ⟨hx, hb, hml, hown, hts⟩ (m_readPart l dC dI st s.heap.size q th tx mz fl it al pt dg ot wr kz ka kd kp ma wg c1 X c2 PD 3600 hz (by omega) hdg) (cwV 1 hts (kwV kwm_239 kwm_240 kwm_241 kwm_203 kwm_238) rfl rfl rfl (by decide +kernel) ⟨Nat.le_of_ble_eq_true rfl, Nat.le_of_ble_eq_true rfl⟩) ⟨kc_blind, va_recv hKc hPc (ci := 5) (q0 := 0) rfl rfl, kc_pre hG hS hFc hKc hPc hDc⟩ rfl rfl hl.1 rfl (lv_room (Nat.le_of_ble_eq_true rfl)) dX5_readLong_95 ⟨Nat.le_of_ble_eq_true rfl, Nat.le_of_ble_eq_true rfl⟩) hP hD hS hFc [0, 1, 2] [] rfl rfl (by decide) (by decide) (fun H locs hP hD hS => ?_)
          have hP : va_P (dC, dI) kcl [(q, .inr (5, [.int th, .ref tx, .int (nI mz), .int fl, .int (bI it), .long al, .ref pt, .int (nI (mRp X mz ma wg PD dg 3600).2.2.2.2), .ref ot, .int (nI wr), .int (nI kz), .ref ka, .ref kd, .ref kp, .int (nI (mRp X mz ma wg PD dg 3600).2.1), .int (bI (mRp X mz ma wg PD dg 3600).2.2.1)])), (tx, .inl (c1, 256, .inl X)), (pt, .inl (c2, 256, .inl (mRp X mz ma wg PD dg 3600).2.2.2.1))] H := hP
          have hD : va_D A [(q, .inr (5, [.int th, .ref tx, .int (nI mz), .int fl, .int (bI it), .long al, .ref pt, .int (nI (mRp X mz ma wg PD dg 3600).2.2.2.2), .ref ot, .int (nI wr), .int (nI kz), .ref ka, .ref kd, .ref kp, .int (nI (mRp X mz ma wg PD dg 3600).2.1), .int (bI (mRp X mz ma wg PD dg 3600).2.2.1)])), (tx, .inl (c1, 256, .inl X)), (pt, .inl (c2, 256, .inl (mRp X mz ma wg PD dg 3600).2.2.2.1))] := hD
          generalize e_95 : mRp X mz ma wg PD dg 3600 = v_95 at hP hD ⊢
          have hP : va_P (dC, dI) kcl [(q, .inr (5, [.int th, .ref tx, .int (nI mz), .int fl, .int (bI it), .long al, .ref pt, .int (nI v_95.2.2.2.2), .ref ot, .int (nI wr), .int (nI kz), .ref ka, .ref kd, .ref kp, .int (nI v_95.2.1), .int (bI v_95.2.2.1)])), (tx, .inl (c1, 256, .inl X)), (pt, .inl (c2, 256, .inl v_95.2.2.2.1))] H := hP
          have hD : va_D A [(q, .inr (5, [.int th, .ref tx, .int (nI mz), .int fl, .int (bI it), .long al, .ref pt, .int (nI v_95.2.2.2.2), .ref ot, .int (nI wr), .int (nI kz), .ref ka, .ref kd, .ref kp, .int (nI v_95.2.1), .int (bI v_95.2.2.1)])), (tx, .inl (c1, 256, .inl X)), (pt, .inl (c2, 256, .inl v_95.2.2.2.1))] := hD
          refine lv_iadd hx hb dX5_readLong_98 ?_
          refine lv_istore_n (lv' := [(1, .int (0 + v_95.1)), (2, .int 3600), (0, .ref q)]) hx hb dX5_readLong_99 rfl hl (by decide) rfl (fun ls hl => ?_)
          refine lv_iload_n hx hb dX5_readLong_100 rfl (lv_at hl 0 rfl) ?_
          have hF9 : mLong X mz ma wg PD dg = (0 + v_95.1, v_95.2.1, v_95.2.2.1, v_95.2.2.2.1, v_95.2.2.2.2) := by
            subst e_95
            first | (simp only [mLong, if_pos c_10, if_pos c_50, if_neg c_61, if_pos c_75]; done) | rfl
          have hP9 : va_P (dC, dI) kcl [(q, .inr (5, [.int th, .ref tx, .int (nI mz), .int fl, .int (bI it), .long al, .ref pt, .int (nI (mLong X mz ma wg PD dg).2.2.2.2), .ref ot, .int (nI wr), .int (nI kz), .ref ka, .ref kd, .ref kp, .int (nI (mLong X mz ma wg PD dg).2.1), .int (bI (mLong X mz ma wg PD dg).2.2.1)])), (tx, .inl (c1, 256, .inl X)), (pt, .inl (c2, 256, .inl (mLong X mz ma wg PD dg).2.2.2.1))] H := by
            try rw [hF9]
            exact hP.sub [0, 1, 2] rfl
          have hD9 : va_D A [(q, .inr (5, [.int th, .ref tx, .int (nI mz), .int fl, .int (bI it), .long al, .ref pt, .int (nI (mLong X mz ma wg PD dg).2.2.2.2), .ref ot, .int (nI wr), .int (nI kz), .ref ka, .ref kd, .ref kp, .int (nI (mLong X mz ma wg PD dg).2.1), .int (bI (mLong X mz ma wg PD dg).2.2.1)])), (tx, .inl (c1, 256, .inl X)), (pt, .inl (c2, 256, .inl (mLong X mz ma wg PD dg).2.2.2.1))] := by
            try rw [hF9]
            exact hD.sub [0, 1, 2] (by decide) rfl
          have hv9 : 0 + v_95.1 = (mLong X mz ma wg PD dg).1 := by
            try rw [hF9]
            try rfl
          exact kc_iret hx hb hr hlocks hv9 hP9 hD9 hS dX5_readLong_101
        · refine lv_aload_n hx hb dX5_readLong_78 rfl (lv_at hl 2 rfl) ?_
          refine va_get (D := (dC, dI)) (ci := 5) (v := .ref tx) (C := RX5) (T := TX5) (N := 16) hx hb hts kin_5 hown hK hP 0 rfl rfl 1 (by decide) (hts _ (kcm kwm_205)) (fun _ h9 => h9) rfl dX5_readLong_79 ?_
          refine lv_aload_n hx hb dX5_readLong_82 rfl (lv_at hl 2 rfl) ?_
          refine va_get (D := (dC, dI)) (ci := 5) (v := .int (nI ma)) (C := RX5) (T := TX5) (N := 16) hx hb hts kin_5 hown hK hP 0 rfl rfl 14 (by decide) (hts _ (kcm kwm_226)) (fun _ h9 => h9) rfl dX5_readLong_83 ?_
          refine va_iald hx hb hK hP 1 0 rfl rfl (vp_in_nI (Nat.lt_of_lt_of_le (kb_lt c_61 (by omega)) (by omega)) (by decide)) dX5_readLong_86 ?_
          rw [show (nI ma).toNatClampNeg = ma from nI_clamp (by omega)]
          refine lv_bipush (v := 44) hx hb dX5_readLong_87 (by decide) ?_
          refine lv_icmp_ne (tgt := 100) hx hb dX5_readLong_89 (by decide) (fun c_89 => ?_) (fun c_89 => ?_)
          · refine lv_iload_n hx hb dX5_readLong_100 rfl (lv_at hl 1 rfl) ?_
            have hF9 : mLong X mz ma wg PD dg = (0, ma, wg, PD, dg) := by
              first | (simp only [mLong, if_pos c_10, if_pos c_50, if_neg c_61, if_neg c_75, if_neg c_89]; done) | rfl
            have hP9 : va_P (dC, dI) kcl [(q, .inr (5, [.int th, .ref tx, .int (nI mz), .int fl, .int (bI it), .long al, .ref pt, .int (nI (mLong X mz ma wg PD dg).2.2.2.2), .ref ot, .int (nI wr), .int (nI kz), .ref ka, .ref kd, .ref kp, .int (nI (mLong X mz ma wg PD dg).2.1), .int (bI (mLong X mz ma wg PD dg).2.2.1)])), (tx, .inl (c1, 256, .inl X)), (pt, .inl (c2, 256, .inl (mLong X mz ma wg PD dg).2.2.2.1))] s.heap := by
              try rw [hF9]
              exact hP.sub [0, 1, 2] rfl
            have hD9 : va_D A [(q, .inr (5, [.int th, .ref tx, .int (nI mz), .int fl, .int (bI it), .long al, .ref pt, .int (nI (mLong X mz ma wg PD dg).2.2.2.2), .ref ot, .int (nI wr), .int (nI kz), .ref ka, .ref kd, .ref kp, .int (nI (mLong X mz ma wg PD dg).2.1), .int (bI (mLong X mz ma wg PD dg).2.2.1)])), (tx, .inl (c1, 256, .inl X)), (pt, .inl (c2, 256, .inl (mLong X mz ma wg PD dg).2.2.2.1))] := by
              try rw [hF9]
              exact hD.sub [0, 1, 2] (by decide) rfl
            have hv9 : (0 : Int32) = (mLong X mz ma wg PD dg).1 := by
              try rw [hF9]
              try rfl
            exact kc_iret hx hb hr hlocks hv9 hP9 hD9 hS dX5_readLong_101
          · refine lv_iload_n hx hb dX5_readLong_92 rfl (lv_at hl 1 rfl) ?_
            refine lv_aload_n hx hb dX5_readLong_93 rfl (lv_at hl 2 rfl) ?_
            refine lv_iload_n hx hb dX5_readLong_94 rfl (lv_at hl 0 rfl) ?_
            have hPc := hP.sub (ws' := [(q, .inr (5, [.int th, .ref tx, .int (nI mz), .int fl, .int (bI it), .long al, .ref pt, .int (nI dg), .ref ot, .int (nI wr), .int (nI kz), .ref ka, .ref kd, .ref kp, .int (nI ma), .int (bI wg)])), (tx, .inl (c1, 256, .inl X)), (pt, .inl (c2, 256, .inl PD))]) [0, 1, 2] rfl
            have hDc := hD.sub (ws' := [(q, .inr (5, [.int th, .ref tx, .int (nI mz), .int fl, .int (bI it), .long al, .ref pt, .int (nI dg), .ref ot, .int (nI wr), .int (nI kz), .ref ka, .ref kd, .ref kp, .int (nI ma), .int (bI wg)])), (tx, .inl (c1, 256, .inl X)), (pt, .inl (c2, 256, .inl PD))]) [0, 1, 2] (by decide) rfl
            have hKc := hK.sub (tys' := [(c1, .int), (c2, .int)]) [0, 1] rfl
            have hFc := va_free (wc := [(q, .inr (5, [.int th, .ref tx, .int (nI mz), .int fl, .int (bI it), .long al, .ref pt, .int (nI dg), .ref ot, .int (nI wr), .int (nI kz), .ref ka, .ref kd, .ref kp, .int (nI ma), .int (bI wg)])), (tx, .inl (c1, 256, .inl X)), (pt, .inl (c2, 256, .inl PD))]) hD hS hA [0, 1, 2] rfl
            refine kc_calli (val := (mRp X mz ma wg PD dg 3600).1) (wr := []) (w1 := [(q, .inr (5, [.int th, .ref tx, .int (nI mz), .int fl, .int (bI it), .long al, .ref pt, .int (nI (mRp X mz ma wg PD dg 3600).2.2.2.2), .ref ot, .int (nI wr), .int (nI kz), .ref ka, .ref kd, .ref kp, .int (nI (mRp X mz ma wg PD dg 3600).2.1), .int (bI (mRp X mz ma wg PD dg 3600).2.2.1)])), (tx, .inl (c1, 256, .inl X)), (pt, .inl (c2, 256, .inl (mRp X mz ma wg PD dg 3600).2.2.2.1))]) (va_runV (As := [.int 3600]) (rest := [.int 0]) ⟨hx, hb, hml, hown, hts⟩ (m_readPart l dC dI st s.heap.size q th tx mz fl it al pt dg ot wr kz ka kd kp ma wg c1 X c2 PD 3600 hz (by omega) hdg) (cwV 1 hts (kwV kwm_239 kwm_240 kwm_241 kwm_203 kwm_238) rfl rfl rfl (by decide +kernel) ⟨Nat.le_of_ble_eq_true rfl, Nat.le_of_ble_eq_true rfl⟩) ⟨kc_blind, va_recv hKc hPc (ci := 5) (q0 := 0) rfl rfl, kc_pre hG hS hFc hKc hPc hDc⟩ rfl rfl hl.1 rfl (lv_room (Nat.le_of_ble_eq_true rfl)) dX5_readLong_95 ⟨Nat.le_of_ble_eq_true rfl, Nat.le_of_ble_eq_true rfl⟩) hP hD hS hFc [0, 1, 2] [] rfl rfl (by decide) (by decide) (fun H locs hP hD hS => ?_)
            have hP : va_P (dC, dI) kcl [(q, .inr (5, [.int th, .ref tx, .int (nI mz), .int fl, .int (bI it), .long al, .ref pt, .int (nI (mRp X mz ma wg PD dg 3600).2.2.2.2), .ref ot, .int (nI wr), .int (nI kz), .ref ka, .ref kd, .ref kp, .int (nI (mRp X mz ma wg PD dg 3600).2.1), .int (bI (mRp X mz ma wg PD dg 3600).2.2.1)])), (tx, .inl (c1, 256, .inl X)), (pt, .inl (c2, 256, .inl (mRp X mz ma wg PD dg 3600).2.2.2.1))] H := hP
            have hD : va_D A [(q, .inr (5, [.int th, .ref tx, .int (nI mz), .int fl, .int (bI it), .long al, .ref pt, .int (nI (mRp X mz ma wg PD dg 3600).2.2.2.2), .ref ot, .int (nI wr), .int (nI kz), .ref ka, .ref kd, .ref kp, .int (nI (mRp X mz ma wg PD dg 3600).2.1), .int (bI (mRp X mz ma wg PD dg 3600).2.2.1)])), (tx, .inl (c1, 256, .inl X)), (pt, .inl (c2, 256, .inl (mRp X mz ma wg PD dg 3600).2.2.2.1))] := hD
            generalize e_95 : mRp X mz ma wg PD dg 3600 = v_95 at hP hD ⊢
            have hP : va_P (dC, dI) kcl [(q, .inr (5, [.int th, .ref tx, .int (nI mz), .int fl, .int (bI it), .long al, .ref pt, .int (nI v_95.2.2.2.2), .ref ot, .int (nI wr), .int (nI kz), .ref ka, .ref kd, .ref kp, .int (nI v_95.2.1), .int (bI v_95.2.2.1)])), (tx, .inl (c1, 256, .inl X)), (pt, .inl (c2, 256, .inl v_95.2.2.2.1))] H := hP
            have hD : va_D A [(q, .inr (5, [.int th, .ref tx, .int (nI mz), .int fl, .int (bI it), .long al, .ref pt, .int (nI v_95.2.2.2.2), .ref ot, .int (nI wr), .int (nI kz), .ref ka, .ref kd, .ref kp, .int (nI v_95.2.1), .int (bI v_95.2.2.1)])), (tx, .inl (c1, 256, .inl X)), (pt, .inl (c2, 256, .inl v_95.2.2.2.1))] := hD
            refine lv_iadd hx hb dX5_readLong_98 ?_
            refine lv_istore_n (lv' := [(1, .int (0 + v_95.1)), (2, .int 3600), (0, .ref q)]) hx hb dX5_readLong_99 rfl hl (by decide) rfl (fun ls hl => ?_)
            refine lv_iload_n hx hb dX5_readLong_100 rfl (lv_at hl 0 rfl) ?_
            have hF9 : mLong X mz ma wg PD dg = (0 + v_95.1, v_95.2.1, v_95.2.2.1, v_95.2.2.2.1, v_95.2.2.2.2) := by
              subst e_95
              first | (simp only [mLong, if_pos c_10, if_pos c_50, if_neg c_61, if_neg c_75, if_pos c_89]; done) | rfl
            have hP9 : va_P (dC, dI) kcl [(q, .inr (5, [.int th, .ref tx, .int (nI mz), .int fl, .int (bI it), .long al, .ref pt, .int (nI (mLong X mz ma wg PD dg).2.2.2.2), .ref ot, .int (nI wr), .int (nI kz), .ref ka, .ref kd, .ref kp, .int (nI (mLong X mz ma wg PD dg).2.1), .int (bI (mLong X mz ma wg PD dg).2.2.1)])), (tx, .inl (c1, 256, .inl X)), (pt, .inl (c2, 256, .inl (mLong X mz ma wg PD dg).2.2.2.1))] H := by
              try rw [hF9]
              exact hP.sub [0, 1, 2] rfl
            have hD9 : va_D A [(q, .inr (5, [.int th, .ref tx, .int (nI mz), .int fl, .int (bI it), .long al, .ref pt, .int (nI (mLong X mz ma wg PD dg).2.2.2.2), .ref ot, .int (nI wr), .int (nI kz), .ref ka, .ref kd, .ref kp, .int (nI (mLong X mz ma wg PD dg).2.1), .int (bI (mLong X mz ma wg PD dg).2.2.1)])), (tx, .inl (c1, 256, .inl X)), (pt, .inl (c2, 256, .inl (mLong X mz ma wg PD dg).2.2.2.1))] := by
              try rw [hF9]
              exact hD.sub [0, 1, 2] (by decide) rfl
            have hv9 : 0 + v_95.1 = (mLong X mz ma wg PD dg).1 := by
              try rw [hF9]
              try rfl
            exact kc_iret hx hb hr hlocks hv9 hP9 hD9 hS dX5_readLong_101
  · refine lv_bipush (v := 60) hx hb dX5_readLong_13 (by decide) ?_
    refine lv_aload_n hx hb dX5_readLong_15 rfl (lv_at hl 2 rfl) ?_
    refine lv_iconst (v := 0) hx hb dX5_readLong_16 (by decide) ?_
    refine lv_bipush (v := 59) hx hb dX5_readLong_17 (by decide) ?_
    have hPc := hP.sub (ws' := [(q, .inr (5, [.int th, .ref tx, .int (nI mz), .int fl, .int (bI it), .long al, .ref pt, .int (nI dg), .ref ot, .int (nI wr), .int (nI kz), .ref ka, .ref kd, .ref kp, .int (nI ma), .int (bI wg)])), (tx, .inl (c1, 256, .inl X))]) [0, 1] rfl
    have hDc := hD.sub (ws' := [(q, .inr (5, [.int th, .ref tx, .int (nI mz), .int fl, .int (bI it), .long al, .ref pt, .int (nI dg), .ref ot, .int (nI wr), .int (nI kz), .ref ka, .ref kd, .ref kp, .int (nI ma), .int (bI wg)])), (tx, .inl (c1, 256, .inl X))]) [0, 1] (by decide) rfl
    have hKc := hK.sub (tys' := [(c1, .int)]) [0] rfl
    have hFc := va_free (wc := [(q, .inr (5, [.int th, .ref tx, .int (nI mz), .int fl, .int (bI it), .long al, .ref pt, .int (nI dg), .ref ot, .int (nI wr), .int (nI kz), .ref ka, .ref kd, .ref kp, .int (nI ma), .int (bI wg)])), (tx, .inl (c1, 256, .inl X))]) hD hS hA [0, 1] rfl
    refine kc_calli (val := (mTwo X mz ma wg 0 59).1) (wr := [(pt, .inl (c2, 256, .inl PD))]) (w1 := [(q, .inr (5, [.int th, .ref tx, .int (nI mz), .int fl, .int (bI it), .long al, .ref pt, .int (nI dg), .ref ot, .int (nI wr), .int (nI kz), .ref ka, .ref kd, .ref kp, .int (nI (mTwo X mz ma wg 0 59).2.1), .int (bI (mTwo X mz ma wg 0 59).2.2)])), (tx, .inl (c1, 256, .inl X))]) (va_runV (As := [.int 0, .int 59]) (rest := [.int 60]) ⟨hx, hb, hml, hown, hts⟩ (m_two l dC dI st s.heap.size q th tx mz fl it al pt dg ot wr kz ka kd kp ma wg c1 X 0 59 hz (by omega)) (cwV 2 hts (kwV kwm_243 kwm_244 kwm_245 kwm_203 kwm_242) rfl rfl rfl (by decide +kernel) ⟨Nat.le_of_ble_eq_true rfl, Nat.le_of_ble_eq_true rfl⟩) ⟨kc_blind, va_recv hKc hPc (ci := 5) (q0 := 0) rfl rfl, kc_pre hG hS hFc hKc hPc hDc⟩ rfl rfl hl.1 rfl (lv_room (Nat.le_of_ble_eq_true rfl)) dX5_readLong_19 ⟨Nat.le_of_ble_eq_true rfl, Nat.le_of_ble_eq_true rfl⟩) hP hD hS hFc [0, 1] [2] rfl rfl (by decide) (by decide) (fun H locs hP hD hS => ?_)
    have hP : va_P (dC, dI) kcl [(pt, .inl (c2, 256, .inl PD)), (q, .inr (5, [.int th, .ref tx, .int (nI mz), .int fl, .int (bI it), .long al, .ref pt, .int (nI dg), .ref ot, .int (nI wr), .int (nI kz), .ref ka, .ref kd, .ref kp, .int (nI (mTwo X mz ma wg 0 59).2.1), .int (bI (mTwo X mz ma wg 0 59).2.2)])), (tx, .inl (c1, 256, .inl X))] H := hP
    have hD : va_D A [(pt, .inl (c2, 256, .inl PD)), (q, .inr (5, [.int th, .ref tx, .int (nI mz), .int fl, .int (bI it), .long al, .ref pt, .int (nI dg), .ref ot, .int (nI wr), .int (nI kz), .ref ka, .ref kd, .ref kp, .int (nI (mTwo X mz ma wg 0 59).2.1), .int (bI (mTwo X mz ma wg 0 59).2.2)])), (tx, .inl (c1, 256, .inl X))] := hD
    generalize e_19 : mTwo X mz ma wg 0 59 = v_19 at hP hD ⊢
    have hP : va_P (dC, dI) kcl [(pt, .inl (c2, 256, .inl PD)), (q, .inr (5, [.int th, .ref tx, .int (nI mz), .int fl, .int (bI it), .long al, .ref pt, .int (nI dg), .ref ot, .int (nI wr), .int (nI kz), .ref ka, .ref kd, .ref kp, .int (nI v_19.2.1), .int (bI v_19.2.2)])), (tx, .inl (c1, 256, .inl X))] H := hP
    have hD : va_D A [(pt, .inl (c2, 256, .inl PD)), (q, .inr (5, [.int th, .ref tx, .int (nI mz), .int fl, .int (bI it), .long al, .ref pt, .int (nI dg), .ref ot, .int (nI wr), .int (nI kz), .ref ka, .ref kd, .ref kp, .int (nI v_19.2.1), .int (bI v_19.2.2)])), (tx, .inl (c1, 256, .inl X))] := hD
    have hv19 : v_19.2.1 ≤ ma + 2 := by rw [← e_19]; exact mTwo_at
    refine lv_imul hx hb dX5_readLong_22 ?_
    refine lv_istore_n (lv' := [(1, .int (60 * v_19.1)), (2, .int 3600), (0, .ref q)]) hx hb dX5_readLong_23 rfl hl (by decide) rfl (fun ls hl => ?_)
    refine lv_bipush (v := 60) hx hb dX5_readLong_24 (by decide) ?_
    refine lv_istore_n (lv' := [(2, .int 60), (1, .int (60 * v_19.1)), (0, .ref q)]) hx hb dX5_readLong_26 rfl hl (by decide) rfl (fun ls hl => ?_)
    refine lv_aload_n hx hb dX5_readLong_27 rfl (lv_at hl 2 rfl) ?_
    have hPc := hP.sub (ws' := [(q, .inr (5, [.int th, .ref tx, .int (nI mz), .int fl, .int (bI it), .long al, .ref pt, .int (nI dg), .ref ot, .int (nI wr), .int (nI kz), .ref ka, .ref kd, .ref kp, .int (nI v_19.2.1), .int (bI v_19.2.2)])), (tx, .inl (c1, 256, .inl X))]) [1, 2] rfl
    have hDc := hD.sub (ws' := [(q, .inr (5, [.int th, .ref tx, .int (nI mz), .int fl, .int (bI it), .long al, .ref pt, .int (nI dg), .ref ot, .int (nI wr), .int (nI kz), .ref ka, .ref kd, .ref kp, .int (nI v_19.2.1), .int (bI v_19.2.2)])), (tx, .inl (c1, 256, .inl X))]) [1, 2] (by decide) rfl
    have hKc := hK.sub (tys' := [(c1, .int)]) [0] rfl
    have hFc := va_free (wc := [(q, .inr (5, [.int th, .ref tx, .int (nI mz), .int fl, .int (bI it), .long al, .ref pt, .int (nI dg), .ref ot, .int (nI wr), .int (nI kz), .ref ka, .ref kd, .ref kp, .int (nI v_19.2.1), .int (bI v_19.2.2)])), (tx, .inl (c1, 256, .inl X))]) hD hS hA [1, 2] rfl
    refine kc_callSi (val := bI (mDig X mz v_19.2.1)) (va_runV (As := []) (rest := []) ⟨hx, hb, hml, hown, hts⟩ (m_isDigit l dC dI st H.size q th tx mz fl it al pt dg ot wr kz ka kd kp v_19.2.1 v_19.2.2 c1 X hz (by omega)) (cwV 0 hts (kwV kwm_228 kwm_229 kwm_230 kwm_203 kwm_227) rfl rfl rfl (by decide +kernel) ⟨Nat.le_of_ble_eq_true rfl, Nat.le_of_ble_eq_true rfl⟩) ⟨kc_blind, va_recv hKc hPc (ci := 5) (q0 := 0) rfl rfl, kc_pre hG hS hFc hKc hPc hDc⟩ rfl rfl hl.1 rfl (lv_room (Nat.le_of_ble_eq_true rfl)) dX5_readLong_28 ⟨Nat.le_of_ble_eq_true rfl, Nat.le_of_ble_eq_true rfl⟩) ?_
    refine lv_if_eq (tgt := 46) hx hb dX5_readLong_31 (by decide) (fun c_31 => ?_) (fun c_31 => ?_)
    · refine lv_aload_n hx hb dX5_readLong_46 rfl (lv_at hl 2 rfl) ?_
      refine va_get (D := (dC, dI)) (ci := 5) (v := .int (bI v_19.2.2)) (C := RX5) (T := TX5) (N := 16) hx hb hts kin_5 hown hK hP 1 rfl rfl 15 (by decide) (hts _ (kcm kwm_235)) (fun _ h9 => h9) rfl dX5_readLong_47 ?_
      refine lv_if_ne (tgt := 100) hx hb dX5_readLong_50 (by decide) (fun c_50 => ?_) (fun c_50 => ?_)
      · refine lv_iload_n hx hb dX5_readLong_100 rfl (lv_at hl 1 rfl) ?_
        have hF9 : mLong X mz ma wg PD dg = (60 * v_19.1, v_19.2.1, v_19.2.2, PD, dg) := by
          subst e_19
          first | (simp only [mLong, if_neg c_10, if_pos c_31, if_neg c_50]; done) | rfl
        have hP9 : va_P (dC, dI) kcl [(q, .inr (5, [.int th, .ref tx, .int (nI mz), .int fl, .int (bI it), .long al, .ref pt, .int (nI (mLong X mz ma wg PD dg).2.2.2.2), .ref ot, .int (nI wr), .int (nI kz), .ref ka, .ref kd, .ref kp, .int (nI (mLong X mz ma wg PD dg).2.1), .int (bI (mLong X mz ma wg PD dg).2.2.1)])), (tx, .inl (c1, 256, .inl X)), (pt, .inl (c2, 256, .inl (mLong X mz ma wg PD dg).2.2.2.1))] H := by
          try rw [hF9]
          exact hP.sub [1, 2, 0] rfl
        have hD9 : va_D A [(q, .inr (5, [.int th, .ref tx, .int (nI mz), .int fl, .int (bI it), .long al, .ref pt, .int (nI (mLong X mz ma wg PD dg).2.2.2.2), .ref ot, .int (nI wr), .int (nI kz), .ref ka, .ref kd, .ref kp, .int (nI (mLong X mz ma wg PD dg).2.1), .int (bI (mLong X mz ma wg PD dg).2.2.1)])), (tx, .inl (c1, 256, .inl X)), (pt, .inl (c2, 256, .inl (mLong X mz ma wg PD dg).2.2.2.1))] := by
          try rw [hF9]
          exact hD.sub [1, 2, 0] (by decide) rfl
        have hv9 : 60 * v_19.1 = (mLong X mz ma wg PD dg).1 := by
          try rw [hF9]
          try rfl
        exact kc_iret hx hb hr hlocks hv9 hP9 hD9 hS dX5_readLong_101
      · refine lv_aload_n hx hb dX5_readLong_53 rfl (lv_at hl 2 rfl) ?_
        refine va_get (D := (dC, dI)) (ci := 5) (v := .int (nI v_19.2.1)) (C := RX5) (T := TX5) (N := 16) hx hb hts kin_5 hown hK hP 1 rfl rfl 14 (by decide) (hts _ (kcm kwm_226)) (fun _ h9 => h9) rfl dX5_readLong_54 ?_
        refine lv_aload_n hx hb dX5_readLong_57 rfl (lv_at hl 2 rfl) ?_
        refine va_get (D := (dC, dI)) (ci := 5) (v := .int (nI mz)) (C := RX5) (T := TX5) (N := 16) hx hb hts kin_5 hown hK hP 1 rfl rfl 2 (by decide) (hts _ (kcm kwm_206)) (fun _ h9 => h9) rfl dX5_readLong_58 ?_
        refine lv_icmp_ge (tgt := 100) hx hb dX5_readLong_61 (by decide) (fun c_61 => ?_) (fun c_61 => ?_)
        · refine lv_iload_n hx hb dX5_readLong_100 rfl (lv_at hl 1 rfl) ?_
          have hF9 : mLong X mz ma wg PD dg = (60 * v_19.1, v_19.2.1, v_19.2.2, PD, dg) := by
            subst e_19
            first | (simp only [mLong, if_neg c_10, if_pos c_31, if_pos c_50, if_pos c_61]; done) | rfl
          have hP9 : va_P (dC, dI) kcl [(q, .inr (5, [.int th, .ref tx, .int (nI mz), .int fl, .int (bI it), .long al, .ref pt, .int (nI (mLong X mz ma wg PD dg).2.2.2.2), .ref ot, .int (nI wr), .int (nI kz), .ref ka, .ref kd, .ref kp, .int (nI (mLong X mz ma wg PD dg).2.1), .int (bI (mLong X mz ma wg PD dg).2.2.1)])), (tx, .inl (c1, 256, .inl X)), (pt, .inl (c2, 256, .inl (mLong X mz ma wg PD dg).2.2.2.1))] H := by
            try rw [hF9]
            exact hP.sub [1, 2, 0] rfl
          have hD9 : va_D A [(q, .inr (5, [.int th, .ref tx, .int (nI mz), .int fl, .int (bI it), .long al, .ref pt, .int (nI (mLong X mz ma wg PD dg).2.2.2.2), .ref ot, .int (nI wr), .int (nI kz), .ref ka, .ref kd, .ref kp, .int (nI (mLong X mz ma wg PD dg).2.1), .int (bI (mLong X mz ma wg PD dg).2.2.1)])), (tx, .inl (c1, 256, .inl X)), (pt, .inl (c2, 256, .inl (mLong X mz ma wg PD dg).2.2.2.1))] := by
            try rw [hF9]
            exact hD.sub [1, 2, 0] (by decide) rfl
          have hv9 : 60 * v_19.1 = (mLong X mz ma wg PD dg).1 := by
            try rw [hF9]
            try rfl
          exact kc_iret hx hb hr hlocks hv9 hP9 hD9 hS dX5_readLong_101
        · refine lv_aload_n hx hb dX5_readLong_64 rfl (lv_at hl 2 rfl) ?_
          refine va_get (D := (dC, dI)) (ci := 5) (v := .ref tx) (C := RX5) (T := TX5) (N := 16) hx hb hts kin_5 hown hK hP 1 rfl rfl 1 (by decide) (hts _ (kcm kwm_205)) (fun _ h9 => h9) rfl dX5_readLong_65 ?_
          refine lv_aload_n hx hb dX5_readLong_68 rfl (lv_at hl 2 rfl) ?_
          refine va_get (D := (dC, dI)) (ci := 5) (v := .int (nI v_19.2.1)) (C := RX5) (T := TX5) (N := 16) hx hb hts kin_5 hown hK hP 1 rfl rfl 14 (by decide) (hts _ (kcm kwm_226)) (fun _ h9 => h9) rfl dX5_readLong_69 ?_
          refine va_iald hx hb hK hP 2 0 rfl rfl (vp_in_nI (Nat.lt_of_lt_of_le (kb_lt c_61 (by omega)) (by omega)) (by decide)) dX5_readLong_72 ?_
          rw [show (nI v_19.2.1).toNatClampNeg = v_19.2.1 from nI_clamp (by omega)]
          refine lv_bipush (v := 46) hx hb dX5_readLong_73 (by decide) ?_
          refine lv_icmp_eq (tgt := 92) hx hb dX5_readLong_75 (by decide) (fun c_75 => ?_) (fun c_75 => ?_)
          · refine lv_iload_n hx hb dX5_readLong_92 rfl (lv_at hl 1 rfl) ?_
            refine lv_aload_n hx hb dX5_readLong_93 rfl (lv_at hl 2 rfl) ?_
            refine lv_iload_n hx hb dX5_readLong_94 rfl (lv_at hl 0 rfl) ?_
            have hPc := hP.sub (ws' := [(q, .inr (5, [.int th, .ref tx, .int (nI mz), .int fl, .int (bI it), .long al, .ref pt, .int (nI dg), .ref ot, .int (nI wr), .int (nI kz), .ref ka, .ref kd, .ref kp, .int (nI v_19.2.1), .int (bI v_19.2.2)])), (tx, .inl (c1, 256, .inl X)), (pt, .inl (c2, 256, .inl PD))]) [1, 2, 0] rfl
            have hDc := hD.sub (ws' := [(q, .inr (5, [.int th, .ref tx, .int (nI mz), .int fl, .int (bI it), .long al, .ref pt, .int (nI dg), .ref ot, .int (nI wr), .int (nI kz), .ref ka, .ref kd, .ref kp, .int (nI v_19.2.1), .int (bI v_19.2.2)])), (tx, .inl (c1, 256, .inl X)), (pt, .inl (c2, 256, .inl PD))]) [1, 2, 0] (by decide) rfl
            have hKc := hK.sub (tys' := [(c1, .int), (c2, .int)]) [0, 1] rfl
            have hFc := va_free (wc := [(q, .inr (5, [.int th, .ref tx, .int (nI mz), .int fl, .int (bI it), .long al, .ref pt, .int (nI dg), .ref ot, .int (nI wr), .int (nI kz), .ref ka, .ref kd, .ref kp, .int (nI v_19.2.1), .int (bI v_19.2.2)])), (tx, .inl (c1, 256, .inl X)), (pt, .inl (c2, 256, .inl PD))]) hD hS hA [1, 2, 0] rfl
            refine kc_calli (val := (mRp X mz v_19.2.1 v_19.2.2 PD dg 60).1) (wr := []) (w1 := [(q, .inr (5, [.int th, .ref tx, .int (nI mz), .int fl, .int (bI it), .long al, .ref pt, .int (nI (mRp X mz v_19.2.1 v_19.2.2 PD dg 60).2.2.2.2), .ref ot, .int (nI wr), .int (nI kz), .ref ka, .ref kd, .ref kp, .int (nI (mRp X mz v_19.2.1 v_19.2.2 PD dg 60).2.1), .int (bI (mRp X mz v_19.2.1 v_19.2.2 PD dg 60).2.2.1)])), (tx, .inl (c1, 256, .inl X)), (pt, .inl (c2, 256, .inl (mRp X mz v_19.2.1 v_19.2.2 PD dg 60).2.2.2.1))]) (va_runV (As := [.int 60]) (rest := [.int (60 * v_19.1)]) ⟨hx, hb, hml, hown, hts⟩ (m_readPart l dC dI st H.size q th tx mz fl it al pt dg ot wr kz ka kd kp v_19.2.1 v_19.2.2 c1 X c2 PD 60 hz (by omega) hdg) (cwV 1 hts (kwV kwm_239 kwm_240 kwm_241 kwm_203 kwm_238) rfl rfl rfl (by decide +kernel) ⟨Nat.le_of_ble_eq_true rfl, Nat.le_of_ble_eq_true rfl⟩) ⟨kc_blind, va_recv hKc hPc (ci := 5) (q0 := 0) rfl rfl, kc_pre hG hS hFc hKc hPc hDc⟩ rfl rfl hl.1 rfl (lv_room (Nat.le_of_ble_eq_true rfl)) dX5_readLong_95 ⟨Nat.le_of_ble_eq_true rfl, Nat.le_of_ble_eq_true rfl⟩) hP hD hS hFc [1, 2, 0] [] rfl rfl (by decide) (by decide) (fun H locs hP hD hS => ?_)
            have hP : va_P (dC, dI) kcl [(q, .inr (5, [.int th, .ref tx, .int (nI mz), .int fl, .int (bI it), .long al, .ref pt, .int (nI (mRp X mz v_19.2.1 v_19.2.2 PD dg 60).2.2.2.2), .ref ot, .int (nI wr), .int (nI kz), .ref ka, .ref kd, .ref kp, .int (nI (mRp X mz v_19.2.1 v_19.2.2 PD dg 60).2.1), .int (bI (mRp X mz v_19.2.1 v_19.2.2 PD dg 60).2.2.1)])), (tx, .inl (c1, 256, .inl X)), (pt, .inl (c2, 256, .inl (mRp X mz v_19.2.1 v_19.2.2 PD dg 60).2.2.2.1))] H := hP
            have hD : va_D A [(q, .inr (5, [.int th, .ref tx, .int (nI mz), .int fl, .int (bI it), .long al, .ref pt, .int (nI (mRp X mz v_19.2.1 v_19.2.2 PD dg 60).2.2.2.2), .ref ot, .int (nI wr), .int (nI kz), .ref ka, .ref kd, .ref kp, .int (nI (mRp X mz v_19.2.1 v_19.2.2 PD dg 60).2.1), .int (bI (mRp X mz v_19.2.1 v_19.2.2 PD dg 60).2.2.1)])), (tx, .inl (c1, 256, .inl X)), (pt, .inl (c2, 256, .inl (mRp X mz v_19.2.1 v_19.2.2 PD dg 60).2.2.2.1))] := hD
            generalize e_95 : mRp X mz v_19.2.1 v_19.2.2 PD dg 60 = v_95 at hP hD ⊢
            have hP : va_P (dC, dI) kcl [(q, .inr (5, [.int th, .ref tx, .int (nI mz), .int fl, .int (bI it), .long al, .ref pt, .int (nI v_95.2.2.2.2), .ref ot, .int (nI wr), .int (nI kz), .ref ka, .ref kd, .ref kp, .int (nI v_95.2.1), .int (bI v_95.2.2.1)])), (tx, .inl (c1, 256, .inl X)), (pt, .inl (c2, 256, .inl v_95.2.2.2.1))] H := hP
            have hD : va_D A [(q, .inr (5, [.int th, .ref tx, .int (nI mz), .int fl, .int (bI it), .long al, .ref pt, .int (nI v_95.2.2.2.2), .ref ot, .int (nI wr), .int (nI kz), .ref ka, .ref kd, .ref kp, .int (nI v_95.2.1), .int (bI v_95.2.2.1)])), (tx, .inl (c1, 256, .inl X)), (pt, .inl (c2, 256, .inl v_95.2.2.2.1))] := hD
            refine lv_iadd hx hb dX5_readLong_98 ?_
            refine lv_istore_n (lv' := [(1, .int ((60 * v_19.1) + v_95.1)), (2, .int 60), (0, .ref q)]) hx hb dX5_readLong_99 rfl hl (by decide) rfl (fun ls hl => ?_)
            refine lv_iload_n hx hb dX5_readLong_100 rfl (lv_at hl 0 rfl) ?_
            have hF9 : mLong X mz ma wg PD dg = ((60 * v_19.1) + v_95.1, v_95.2.1, v_95.2.2.1, v_95.2.2.2.1, v_95.2.2.2.2) := by
              subst e_95
              subst e_19
              first | (simp only [mLong, if_neg c_10, if_pos c_31, if_pos c_50, if_neg c_61, if_pos c_75]; done) | rfl
            have hP9 : va_P (dC, dI) kcl [(q, .inr (5, [.int th, .ref tx, .int (nI mz), .int fl, .int (bI it), .long al, .ref pt, .int (nI (mLong X mz ma wg PD dg).2.2.2.2), .ref ot, .int (nI wr), .int (nI kz), .ref ka, .ref kd, .ref kp, .int (nI (mLong X mz ma wg PD dg).2.1), .int (bI (mLong X mz ma wg PD dg).2.2.1)])), (tx, .inl (c1, 256, .inl X)), (pt, .inl (c2, 256, .inl (mLong X mz ma wg PD dg).2.2.2.1))] H := by
              try rw [hF9]
              exact hP.sub [0, 1, 2] rfl
            have hD9 : va_D A [(q, .inr (5, [.int th, .ref tx, .int (nI mz), .int fl, .int (bI it), .long al, .ref pt, .int (nI (mLong X mz ma wg PD dg).2.2.2.2), .ref ot, .int (nI wr), .int (nI kz), .ref ka, .ref kd, .ref kp, .int (nI (mLong X mz ma wg PD dg).2.1), .int (bI (mLong X mz ma wg PD dg).2.2.1)])), (tx, .inl (c1, 256, .inl X)), (pt, .inl (c2, 256, .inl (mLong X mz ma wg PD dg).2.2.2.1))] := by
              try rw [hF9]
              exact hD.sub [0, 1, 2] (by decide) rfl
            have hv9 : (60 * v_19.1) + v_95.1 = (mLong X mz ma wg PD dg).1 := by
              try rw [hF9]
              try rfl
            exact kc_iret hx hb hr hlocks hv9 hP9 hD9 hS dX5_readLong_101
          · refine lv_aload_n hx hb dX5_readLong_78 rfl (lv_at hl 2 rfl) ?_
            refine va_get (D := (dC, dI)) (ci := 5) (v := .ref tx) (C := RX5) (T := TX5) (N := 16) hx hb hts kin_5 hown hK hP 1 rfl rfl 1 (by decide) (hts _ (kcm kwm_205)) (fun _ h9 => h9) rfl dX5_readLong_79 ?_
            refine lv_aload_n hx hb dX5_readLong_82 rfl (lv_at hl 2 rfl) ?_
            refine va_get (D := (dC, dI)) (ci := 5) (v := .int (nI v_19.2.1)) (C := RX5) (T := TX5) (N := 16) hx hb hts kin_5 hown hK hP 1 rfl rfl 14 (by decide) (hts _ (kcm kwm_226)) (fun _ h9 => h9) rfl dX5_readLong_83 ?_
            refine va_iald hx hb hK hP 2 0 rfl rfl (vp_in_nI (Nat.lt_of_lt_of_le (kb_lt c_61 (by omega)) (by omega)) (by decide)) dX5_readLong_86 ?_
            rw [show (nI v_19.2.1).toNatClampNeg = v_19.2.1 from nI_clamp (by omega)]
            refine lv_bipush (v := 44) hx hb dX5_readLong_87 (by decide) ?_
            refine lv_icmp_ne (tgt := 100) hx hb dX5_readLong_89 (by decide) (fun c_89 => ?_) (fun c_89 => ?_)
            · refine lv_iload_n hx hb dX5_readLong_100 rfl (lv_at hl 1 rfl) ?_
              have hF9 : mLong X mz ma wg PD dg = (60 * v_19.1, v_19.2.1, v_19.2.2, PD, dg) := by
                subst e_19
                first | (simp only [mLong, if_neg c_10, if_pos c_31, if_pos c_50, if_neg c_61, if_neg c_75, if_neg c_89]; done) | rfl
              have hP9 : va_P (dC, dI) kcl [(q, .inr (5, [.int th, .ref tx, .int (nI mz), .int fl, .int (bI it), .long al, .ref pt, .int (nI (mLong X mz ma wg PD dg).2.2.2.2), .ref ot, .int (nI wr), .int (nI kz), .ref ka, .ref kd, .ref kp, .int (nI (mLong X mz ma wg PD dg).2.1), .int (bI (mLong X mz ma wg PD dg).2.2.1)])), (tx, .inl (c1, 256, .inl X)), (pt, .inl (c2, 256, .inl (mLong X mz ma wg PD dg).2.2.2.1))] H := by
                try rw [hF9]
                exact hP.sub [1, 2, 0] rfl
              have hD9 : va_D A [(q, .inr (5, [.int th, .ref tx, .int (nI mz), .int fl, .int (bI it), .long al, .ref pt, .int (nI (mLong X mz ma wg PD dg).2.2.2.2), .ref ot, .int (nI wr), .int (nI kz), .ref ka, .ref kd, .ref kp, .int (nI (mLong X mz ma wg PD dg).2.1), .int (bI (mLong X mz ma wg PD dg).2.2.1)])), (tx, .inl (c1, 256, .inl X)), (pt, .inl (c2, 256, .inl (mLong X mz ma wg PD dg).2.2.2.1))] := by
                try rw [hF9]
                exact hD.sub [1, 2, 0] (by decide) rfl
              have hv9 : 60 * v_19.1 = (mLong X mz ma wg PD dg).1 := by
                try rw [hF9]
                try rfl
              exact kc_iret hx hb hr hlocks hv9 hP9 hD9 hS dX5_readLong_101
            · refine lv_iload_n hx hb dX5_readLong_92 rfl (lv_at hl 1 rfl) ?_
              refine lv_aload_n hx hb dX5_readLong_93 rfl (lv_at hl 2 rfl) ?_
              refine lv_iload_n hx hb dX5_readLong_94 rfl (lv_at hl 0 rfl) ?_
              have hPc := hP.sub (ws' := [(q, .inr (5, [.int th, .ref tx, .int (nI mz), .int fl, .int (bI it), .long al, .ref pt, .int (nI dg), .ref ot, .int (nI wr), .int (nI kz), .ref ka, .ref kd, .ref kp, .int (nI v_19.2.1), .int (bI v_19.2.2)])), (tx, .inl (c1, 256, .inl X)), (pt, .inl (c2, 256, .inl PD))]) [1, 2, 0] rfl
              have hDc := hD.sub (ws' := [(q, .inr (5, [.int th, .ref tx, .int (nI mz), .int fl, .int (bI it), .long al, .ref pt, .int (nI dg), .ref ot, .int (nI wr), .int (nI kz), .ref ka, .ref kd, .ref kp, .int (nI v_19.2.1), .int (bI v_19.2.2)])), (tx, .inl (c1, 256, .inl X)), (pt, .inl (c2, 256, .inl PD))]) [1, 2, 0] (by decide) rfl
              have hKc := hK.sub (tys' := [(c1, .int), (c2, .int)]) [0, 1] rfl
              have hFc := va_free (wc := [(q, .inr (5, [.int th, .ref tx, .int (nI mz), .int fl, .int (bI it), .long al, .ref pt, .int (nI dg), .ref ot, .int (nI wr), .int (nI kz), .ref ka, .ref kd, .ref kp, .int (nI v_19.2.1), .int (bI v_19.2.2)])), (tx, .inl (c1, 256, .inl X)), (pt, .inl (c2, 256, .inl PD))]) hD hS hA [1, 2, 0] rfl
              refine kc_calli (val := (mRp X mz v_19.2.1 v_19.2.2 PD dg 60).1) (wr := []) (w1 := [(q, .inr (5, [.int th, .ref tx, .int (nI mz), .int fl, .int (bI it), .long al, .ref pt, .int (nI (mRp X mz v_19.2.1 v_19.2.2 PD dg 60).2.2.2.2), .ref ot, .int (nI wr), .int (nI kz), .ref ka, .ref kd, .ref kp, .int (nI (mRp X mz v_19.2.1 v_19.2.2 PD dg 60).2.1), .int (bI (mRp X mz v_19.2.1 v_19.2.2 PD dg 60).2.2.1)])), (tx, .inl (c1, 256, .inl X)), (pt, .inl (c2, 256, .inl (mRp X mz v_19.2.1 v_19.2.2 PD dg 60).2.2.2.1))]) (va_runV (As := [.int 60]) (rest := [.int (60 * v_19.1)]) ⟨hx, hb, hml, hown, hts⟩ (m_readPart l dC dI st H.size q th tx mz fl it al pt dg ot wr kz ka kd kp v_19.2.1 v_19.2.2 c1 X c2 PD 60 hz (by omega) hdg) (cwV 1 hts (kwV kwm_239 kwm_240 kwm_241 kwm_203 kwm_238) rfl rfl rfl (by decide +kernel) ⟨Nat.le_of_ble_eq_true rfl, Nat.le_of_ble_eq_true rfl⟩) ⟨kc_blind, va_recv hKc hPc (ci := 5) (q0 := 0) rfl rfl, kc_pre hG hS hFc hKc hPc hDc⟩ rfl rfl hl.1 rfl (lv_room (Nat.le_of_ble_eq_true rfl)) dX5_readLong_95 ⟨Nat.le_of_ble_eq_true rfl, Nat.le_of_ble_eq_true rfl⟩) hP hD hS hFc [1, 2, 0] [] rfl rfl (by decide) (by decide) (fun H locs hP hD hS => ?_)
              have hP : va_P (dC, dI) kcl [(q, .inr (5, [.int th, .ref tx, .int (nI mz), .int fl, .int (bI it), .long al, .ref pt, .int (nI (mRp X mz v_19.2.1 v_19.2.2 PD dg 60).2.2.2.2), .ref ot, .int (nI wr), .int (nI kz), .ref ka, .ref kd, .ref kp, .int (nI (mRp X mz v_19.2.1 v_19.2.2 PD dg 60).2.1), .int (bI (mRp X mz v_19.2.1 v_19.2.2 PD dg 60).2.2.1)])), (tx, .inl (c1, 256, .inl X)), (pt, .inl (c2, 256, .inl (mRp X mz v_19.2.1 v_19.2.2 PD dg 60).2.2.2.1))] H := hP
              have hD : va_D A [(q, .inr (5, [.int th, .ref tx, .int (nI mz), .int fl, .int (bI it), .long al, .ref pt, .int (nI (mRp X mz v_19.2.1 v_19.2.2 PD dg 60).2.2.2.2), .ref ot, .int (nI wr), .int (nI kz), .ref ka, .ref kd, .ref kp, .int (nI (mRp X mz v_19.2.1 v_19.2.2 PD dg 60).2.1), .int (bI (mRp X mz v_19.2.1 v_19.2.2 PD dg 60).2.2.1)])), (tx, .inl (c1, 256, .inl X)), (pt, .inl (c2, 256, .inl (mRp X mz v_19.2.1 v_19.2.2 PD dg 60).2.2.2.1))] := hD
              generalize e_95 : mRp X mz v_19.2.1 v_19.2.2 PD dg 60 = v_95 at hP hD ⊢
              have hP : va_P (dC, dI) kcl [(q, .inr (5, [.int th, .ref tx, .int (nI mz), .int fl, .int (bI it), .long al, .ref pt, .int (nI v_95.2.2.2.2), .ref ot, .int (nI wr), .int (nI kz), .ref ka, .ref kd, .ref kp, .int (nI v_95.2.1), .int (bI v_95.2.2.1)])), (tx, .inl (c1, 256, .inl X)), (pt, .inl (c2, 256, .inl v_95.2.2.2.1))] H := hP
              have hD : va_D A [(q, .inr (5, [.int th, .ref tx, .int (nI mz), .int fl, .int (bI it), .long al, .ref pt, .int (nI v_95.2.2.2.2), .ref ot, .int (nI wr), .int (nI kz), .ref ka, .ref kd, .ref kp, .int (nI v_95.2.1), .int (bI v_95.2.2.1)])), (tx, .inl (c1, 256, .inl X)), (pt, .inl (c2, 256, .inl v_95.2.2.2.1))] := hD
              refine lv_iadd hx hb dX5_readLong_98 ?_
              refine lv_istore_n (lv' := [(1, .int ((60 * v_19.1) + v_95.1)), (2, .int 60), (0, .ref q)]) hx hb dX5_readLong_99 rfl hl (by decide) rfl (fun ls hl => ?_)
              refine lv_iload_n hx hb dX5_readLong_100 rfl (lv_at hl 0 rfl) ?_
              have hF9 : mLong X mz ma wg PD dg = ((60 * v_19.1) + v_95.1, v_95.2.1, v_95.2.2.1, v_95.2.2.2.1, v_95.2.2.2.2) := by
                subst e_95
                subst e_19
                first | (simp only [mLong, if_neg c_10, if_pos c_31, if_pos c_50, if_neg c_61, if_neg c_75, if_pos c_89]; done) | rfl
              have hP9 : va_P (dC, dI) kcl [(q, .inr (5, [.int th, .ref tx, .int (nI mz), .int fl, .int (bI it), .long al, .ref pt, .int (nI (mLong X mz ma wg PD dg).2.2.2.2), .ref ot, .int (nI wr), .int (nI kz), .ref ka, .ref kd, .ref kp, .int (nI (mLong X mz ma wg PD dg).2.1), .int (bI (mLong X mz ma wg PD dg).2.2.1)])), (tx, .inl (c1, 256, .inl X)), (pt, .inl (c2, 256, .inl (mLong X mz ma wg PD dg).2.2.2.1))] H := by
                try rw [hF9]
                exact hP.sub [0, 1, 2] rfl
              have hD9 : va_D A [(q, .inr (5, [.int th, .ref tx, .int (nI mz), .int fl, .int (bI it), .long al, .ref pt, .int (nI (mLong X mz ma wg PD dg).2.2.2.2), .ref ot, .int (nI wr), .int (nI kz), .ref ka, .ref kd, .ref kp, .int (nI (mLong X mz ma wg PD dg).2.1), .int (bI (mLong X mz ma wg PD dg).2.2.1)])), (tx, .inl (c1, 256, .inl X)), (pt, .inl (c2, 256, .inl (mLong X mz ma wg PD dg).2.2.2.1))] := by
                try rw [hF9]
                exact hD.sub [0, 1, 2] (by decide) rfl
              have hv9 : (60 * v_19.1) + v_95.1 = (mLong X mz ma wg PD dg).1 := by
                try rw [hF9]
                try rfl
              exact kc_iret hx hb hr hlocks hv9 hP9 hD9 hS dX5_readLong_101
    · refine lv_iload_n hx hb dX5_readLong_34 rfl (lv_at hl 1 rfl) ?_
      refine lv_aload_n hx hb dX5_readLong_35 rfl (lv_at hl 2 rfl) ?_
      refine lv_iconst (v := 0) hx hb dX5_readLong_36 (by decide) ?_
      refine lv_bipush (v := 59) hx hb dX5_readLong_37 (by decide) ?_
      have hPc := hP.sub (ws' := [(q, .inr (5, [.int th, .ref tx, .int (nI mz), .int fl, .int (bI it), .long al, .ref pt, .int (nI dg), .ref ot, .int (nI wr), .int (nI kz), .ref ka, .ref kd, .ref kp, .int (nI v_19.2.1), .int (bI v_19.2.2)])), (tx, .inl (c1, 256, .inl X))]) [1, 2] rfl
      have hDc := hD.sub (ws' := [(q, .inr (5, [.int th, .ref tx, .int (nI mz), .int fl, .int (bI it), .long al, .ref pt, .int (nI dg), .ref ot, .int (nI wr), .int (nI kz), .ref ka, .ref kd, .ref kp, .int (nI v_19.2.1), .int (bI v_19.2.2)])), (tx, .inl (c1, 256, .inl X))]) [1, 2] (by decide) rfl
      have hKc := hK.sub (tys' := [(c1, .int)]) [0] rfl
      have hFc := va_free (wc := [(q, .inr (5, [.int th, .ref tx, .int (nI mz), .int fl, .int (bI it), .long al, .ref pt, .int (nI dg), .ref ot, .int (nI wr), .int (nI kz), .ref ka, .ref kd, .ref kp, .int (nI v_19.2.1), .int (bI v_19.2.2)])), (tx, .inl (c1, 256, .inl X))]) hD hS hA [1, 2] rfl
      refine kc_calli (val := (mTwo X mz v_19.2.1 v_19.2.2 0 59).1) (wr := [(pt, .inl (c2, 256, .inl PD))]) (w1 := [(q, .inr (5, [.int th, .ref tx, .int (nI mz), .int fl, .int (bI it), .long al, .ref pt, .int (nI dg), .ref ot, .int (nI wr), .int (nI kz), .ref ka, .ref kd, .ref kp, .int (nI (mTwo X mz v_19.2.1 v_19.2.2 0 59).2.1), .int (bI (mTwo X mz v_19.2.1 v_19.2.2 0 59).2.2)])), (tx, .inl (c1, 256, .inl X))]) (va_runV (As := [.int 0, .int 59]) (rest := [.int (60 * v_19.1)]) ⟨hx, hb, hml, hown, hts⟩ (m_two l dC dI st H.size q th tx mz fl it al pt dg ot wr kz ka kd kp v_19.2.1 v_19.2.2 c1 X 0 59 hz (by omega)) (cwV 2 hts (kwV kwm_243 kwm_244 kwm_245 kwm_203 kwm_242) rfl rfl rfl (by decide +kernel) ⟨Nat.le_of_ble_eq_true rfl, Nat.le_of_ble_eq_true rfl⟩) ⟨kc_blind, va_recv hKc hPc (ci := 5) (q0 := 0) rfl rfl, kc_pre hG hS hFc hKc hPc hDc⟩ rfl rfl hl.1 rfl (lv_room (Nat.le_of_ble_eq_true rfl)) dX5_readLong_39 ⟨Nat.le_of_ble_eq_true rfl, Nat.le_of_ble_eq_true rfl⟩) hP hD hS hFc [1, 2] [0] rfl rfl (by decide) (by decide) (fun H locs hP hD hS => ?_)
      have hP : va_P (dC, dI) kcl [(pt, .inl (c2, 256, .inl PD)), (q, .inr (5, [.int th, .ref tx, .int (nI mz), .int fl, .int (bI it), .long al, .ref pt, .int (nI dg), .ref ot, .int (nI wr), .int (nI kz), .ref ka, .ref kd, .ref kp, .int (nI (mTwo X mz v_19.2.1 v_19.2.2 0 59).2.1), .int (bI (mTwo X mz v_19.2.1 v_19.2.2 0 59).2.2)])), (tx, .inl (c1, 256, .inl X))] H := hP
      have hD : va_D A [(pt, .inl (c2, 256, .inl PD)), (q, .inr (5, [.int th, .ref tx, .int (nI mz), .int fl, .int (bI it), .long al, .ref pt, .int (nI dg), .ref ot, .int (nI wr), .int (nI kz), .ref ka, .ref kd, .ref kp, .int (nI (mTwo X mz v_19.2.1 v_19.2.2 0 59).2.1), .int (bI (mTwo X mz v_19.2.1 v_19.2.2 0 59).2.2)])), (tx, .inl (c1, 256, .inl X))] := hD
      generalize e_39 : mTwo X mz v_19.2.1 v_19.2.2 0 59 = v_39 at hP hD ⊢
      have hP : va_P (dC, dI) kcl [(pt, .inl (c2, 256, .inl PD)), (q, .inr (5, [.int th, .ref tx, .int (nI mz), .int fl, .int (bI it), .long al, .ref pt, .int (nI dg), .ref ot, .int (nI wr), .int (nI kz), .ref ka, .ref kd, .ref kp, .int (nI v_39.2.1), .int (bI v_39.2.2)])), (tx, .inl (c1, 256, .inl X))] H := hP
      have hD : va_D A [(pt, .inl (c2, 256, .inl PD)), (q, .inr (5, [.int th, .ref tx, .int (nI mz), .int fl, .int (bI it), .long al, .ref pt, .int (nI dg), .ref ot, .int (nI wr), .int (nI kz), .ref ka, .ref kd, .ref kp, .int (nI v_39.2.1), .int (bI v_39.2.2)])), (tx, .inl (c1, 256, .inl X))] := hD
      have hv39 : v_39.2.1 ≤ v_19.2.1 + 2 := by rw [← e_39]; exact mTwo_at
      refine lv_iadd hx hb dX5_readLong_42 ?_
      refine lv_istore_n (lv' := [(1, .int ((60 * v_19.1) + v_39.1)), (2, .int 60), (0, .ref q)]) hx hb dX5_readLong_43 rfl hl (by decide) rfl (fun ls hl => ?_)
      refine lv_iconst (v := 1) hx hb dX5_readLong_44 (by decide) ?_
      refine lv_istore_n (lv' := [(2, .int 1), (1, .int ((60 * v_19.1) + v_39.1)), (0, .ref q)]) hx hb dX5_readLong_45 rfl hl (by decide) rfl (fun ls hl => ?_)
      refine lv_aload_n hx hb dX5_readLong_46 rfl (lv_at hl 2 rfl) ?_
      refine va_get (D := (dC, dI)) (ci := 5) (v := .int (bI v_39.2.2)) (C := RX5) (T := TX5) (N := 16) hx hb hts kin_5 hown hK hP 1 rfl rfl 15 (by decide) (hts _ (kcm kwm_235)) (fun _ h9 => h9) rfl dX5_readLong_47 ?_
      refine lv_if_ne (tgt := 100) hx hb dX5_readLong_50 (by decide) (fun c_50 => ?_) (fun c_50 => ?_)
      · refine lv_iload_n hx hb dX5_readLong_100 rfl (lv_at hl 1 rfl) ?_
        have hF9 : mLong X mz ma wg PD dg = ((60 * v_19.1) + v_39.1, v_39.2.1, v_39.2.2, PD, dg) := by
          subst e_39
          subst e_19
          first | (simp only [mLong, if_neg c_10, if_neg c_31, if_neg c_50]; done) | rfl
        have hP9 : va_P (dC, dI) kcl [(q, .inr (5, [.int th, .ref tx, .int (nI mz), .int fl, .int (bI it), .long al, .ref pt, .int (nI (mLong X mz ma wg PD dg).2.2.2.2), .ref ot, .int (nI wr), .int (nI kz), .ref ka, .ref kd, .ref kp, .int (nI (mLong X mz ma wg PD dg).2.1), .int (bI (mLong X mz ma wg PD dg).2.2.1)])), (tx, .inl (c1, 256, .inl X)), (pt, .inl (c2, 256, .inl (mLong X mz ma wg PD dg).2.2.2.1))] H := by
          try rw [hF9]
          exact hP.sub [1, 2, 0] rfl
        have hD9 : va_D A [(q, .inr (5, [.int th, .ref tx, .int (nI mz), .int fl, .int (bI it), .long al, .ref pt, .int (nI (mLong X mz ma wg PD dg).2.2.2.2), .ref ot, .int (nI wr), .int (nI kz), .ref ka, .ref kd, .ref kp, .int (nI (mLong X mz ma wg PD dg).2.1), .int (bI (mLong X mz ma wg PD dg).2.2.1)])), (tx, .inl (c1, 256, .inl X)), (pt, .inl (c2, 256, .inl (mLong X mz ma wg PD dg).2.2.2.1))] := by
          try rw [hF9]
          exact hD.sub [1, 2, 0] (by decide) rfl
        have hv9 : (60 * v_19.1) + v_39.1 = (mLong X mz ma wg PD dg).1 := by
          try rw [hF9]
          try rfl
        exact kc_iret hx hb hr hlocks hv9 hP9 hD9 hS dX5_readLong_101
      · refine lv_aload_n hx hb dX5_readLong_53 rfl (lv_at hl 2 rfl) ?_
        refine va_get (D := (dC, dI)) (ci := 5) (v := .int (nI v_39.2.1)) (C := RX5) (T := TX5) (N := 16) hx hb hts kin_5 hown hK hP 1 rfl rfl 14 (by decide) (hts _ (kcm kwm_226)) (fun _ h9 => h9) rfl dX5_readLong_54 ?_
        refine lv_aload_n hx hb dX5_readLong_57 rfl (lv_at hl 2 rfl) ?_
        refine va_get (D := (dC, dI)) (ci := 5) (v := .int (nI mz)) (C := RX5) (T := TX5) (N := 16) hx hb hts kin_5 hown hK hP 1 rfl rfl 2 (by decide) (hts _ (kcm kwm_206)) (fun _ h9 => h9) rfl dX5_readLong_58 ?_
        refine lv_icmp_ge (tgt := 100) hx hb dX5_readLong_61 (by decide) (fun c_61 => ?_) (fun c_61 => ?_)
        · refine lv_iload_n hx hb dX5_readLong_100 rfl (lv_at hl 1 rfl) ?_
          have hF9 : mLong X mz ma wg PD dg = ((60 * v_19.1) + v_39.1, v_39.2.1, v_39.2.2, PD, dg) := by
            subst e_39
            subst e_19
            first | (simp only [mLong, if_neg c_10, if_neg c_31, if_pos c_50, if_pos c_61]; done) | rfl
          have hP9 : va_P (dC, dI) kcl [(q, .inr (5, [.int th, .ref tx, .int (nI mz), .int fl, .int (bI it), .long al, .ref pt, .int (nI (mLong X mz ma wg PD dg).2.2.2.2), .ref ot, .int (nI wr), .int (nI kz), .ref ka, .ref kd, .ref kp, .int (nI (mLong X mz ma wg PD dg).2.1), .int (bI (mLong X mz ma wg PD dg).2.2.1)])), (tx, .inl (c1, 256, .inl X)), (pt, .inl (c2, 256, .inl (mLong X mz ma wg PD dg).2.2.2.1))] H := by
            try rw [hF9]
            exact hP.sub [1, 2, 0] rfl
          have hD9 : va_D A [(q, .inr (5, [.int th, .ref tx, .int (nI mz), .int fl, .int (bI it), .long al, .ref pt, .int (nI (mLong X mz ma wg PD dg).2.2.2.2), .ref ot, .int (nI wr), .int (nI kz), .ref ka, .ref kd, .ref kp, .int (nI (mLong X mz ma wg PD dg).2.1), .int (bI (mLong X mz ma wg PD dg).2.2.1)])), (tx, .inl (c1, 256, .inl X)), (pt, .inl (c2, 256, .inl (mLong X mz ma wg PD dg).2.2.2.1))] := by
            try rw [hF9]
            exact hD.sub [1, 2, 0] (by decide) rfl
          have hv9 : (60 * v_19.1) + v_39.1 = (mLong X mz ma wg PD dg).1 := by
            try rw [hF9]
            try rfl
          exact kc_iret hx hb hr hlocks hv9 hP9 hD9 hS dX5_readLong_101
        · refine lv_aload_n hx hb dX5_readLong_64 rfl (lv_at hl 2 rfl) ?_
          refine va_get (D := (dC, dI)) (ci := 5) (v := .ref tx) (C := RX5) (T := TX5) (N := 16) hx hb hts kin_5 hown hK hP 1 rfl rfl 1 (by decide) (hts _ (kcm kwm_205)) (fun _ h9 => h9) rfl dX5_readLong_65 ?_
          refine lv_aload_n hx hb dX5_readLong_68 rfl (lv_at hl 2 rfl) ?_
          refine va_get (D := (dC, dI)) (ci := 5) (v := .int (nI v_39.2.1)) (C := RX5) (T := TX5) (N := 16) hx hb hts kin_5 hown hK hP 1 rfl rfl 14 (by decide) (hts _ (kcm kwm_226)) (fun _ h9 => h9) rfl dX5_readLong_69 ?_
          refine va_iald hx hb hK hP 2 0 rfl rfl (vp_in_nI (Nat.lt_of_lt_of_le (kb_lt c_61 (by omega)) (by omega)) (by decide)) dX5_readLong_72 ?_
          rw [show (nI v_39.2.1).toNatClampNeg = v_39.2.1 from nI_clamp (by omega)]
          refine lv_bipush (v := 46) hx hb dX5_readLong_73 (by decide) ?_
          refine lv_icmp_eq (tgt := 92) hx hb dX5_readLong_75 (by decide) (fun c_75 => ?_) (fun c_75 => ?_)
          · refine lv_iload_n hx hb dX5_readLong_92 rfl (lv_at hl 1 rfl) ?_
            refine lv_aload_n hx hb dX5_readLong_93 rfl (lv_at hl 2 rfl) ?_
            refine lv_iload_n hx hb dX5_readLong_94 rfl (lv_at hl 0 rfl) ?_
            have hPc := hP.sub (ws' := [(q, .inr (5, [.int th, .ref tx, .int (nI mz), .int fl, .int (bI it), .long al, .ref pt, .int (nI dg), .ref ot, .int (nI wr), .int (nI kz), .ref ka, .ref kd, .ref kp, .int (nI v_39.2.1), .int (bI v_39.2.2)])), (tx, .inl (c1, 256, .inl X)), (pt, .inl (c2, 256, .inl PD))]) [1, 2, 0] rfl
            have hDc := hD.sub (ws' := [(q, .inr (5, [.int th, .ref tx, .int (nI mz), .int fl, .int (bI it), .long al, .ref pt, .int (nI dg), .ref ot, .int (nI wr), .int (nI kz), .ref ka, .ref kd, .ref kp, .int (nI v_39.2.1), .int (bI v_39.2.2)])), (tx, .inl (c1, 256, .inl X)), (pt, .inl (c2, 256, .inl PD))]) [1, 2, 0] (by decide) rfl
            have hKc := hK.sub (tys' := [(c1, .int), (c2, .int)]) [0, 1] rfl
            have hFc := va_free (wc := [(q, .inr (5, [.int th, .ref tx, .int (nI mz), .int fl, .int (bI it), .long al, .ref pt, .int (nI dg), .ref ot, .int (nI wr), .int (nI kz), .ref ka, .ref kd, .ref kp, .int (nI v_39.2.1), .int (bI v_39.2.2)])), (tx, .inl (c1, 256, .inl X)), (pt, .inl (c2, 256, .inl PD))]) hD hS hA [1, 2, 0] rfl
            refine kc_calli (val := (mRp X mz v_39.2.1 v_39.2.2 PD dg 1).1) (wr := []) (w1 := [(q, .inr (5, [.int th, .ref tx, .int (nI mz), .int fl, .int (bI it), .long al, .ref pt, .int (nI (mRp X mz v_39.2.1 v_39.2.2 PD dg 1).2.2.2.2), .ref ot, .int (nI wr), .int (nI kz), .ref ka, .ref kd, .ref kp, .int (nI (mRp X mz v_39.2.1 v_39.2.2 PD dg 1).2.1), .int (bI (mRp X mz v_39.2.1 v_39.2.2 PD dg 1).2.2.1)])), (tx, .inl (c1, 256, .inl X)), (pt, .inl (c2, 256, .inl (mRp X mz v_39.2.1 v_39.2.2 PD dg 1).2.2.2.1))]) (va_runV (As := [.int 1]) (rest := [.int ((60 * v_19.1) + v_39.1)]) ⟨hx, hb, hml, hown, hts⟩ (m_readPart l dC dI st H.size q th tx mz fl it al pt dg ot wr kz ka kd kp v_39.2.1 v_39.2.2 c1 X c2 PD 1 hz (by omega) hdg) (cwV 1 hts (kwV kwm_239 kwm_240 kwm_241 kwm_203 kwm_238) rfl rfl rfl (by decide +kernel) ⟨Nat.le_of_ble_eq_true rfl, Nat.le_of_ble_eq_true rfl⟩) ⟨kc_blind, va_recv hKc hPc (ci := 5) (q0 := 0) rfl rfl, kc_pre hG hS hFc hKc hPc hDc⟩ rfl rfl hl.1 rfl (lv_room (Nat.le_of_ble_eq_true rfl)) dX5_readLong_95 ⟨Nat.le_of_ble_eq_true rfl, Nat.le_of_ble_eq_true rfl⟩) hP hD hS hFc [1, 2, 0] [] rfl rfl (by decide) (by decide) (fun H locs hP hD hS => ?_)
            have hP : va_P (dC, dI) kcl [(q, .inr (5, [.int th, .ref tx, .int (nI mz), .int fl, .int (bI it), .long al, .ref pt, .int (nI (mRp X mz v_39.2.1 v_39.2.2 PD dg 1).2.2.2.2), .ref ot, .int (nI wr), .int (nI kz), .ref ka, .ref kd, .ref kp, .int (nI (mRp X mz v_39.2.1 v_39.2.2 PD dg 1).2.1), .int (bI (mRp X mz v_39.2.1 v_39.2.2 PD dg 1).2.2.1)])), (tx, .inl (c1, 256, .inl X)), (pt, .inl (c2, 256, .inl (mRp X mz v_39.2.1 v_39.2.2 PD dg 1).2.2.2.1))] H := hP
            have hD : va_D A [(q, .inr (5, [.int th, .ref tx, .int (nI mz), .int fl, .int (bI it), .long al, .ref pt, .int (nI (mRp X mz v_39.2.1 v_39.2.2 PD dg 1).2.2.2.2), .ref ot, .int (nI wr), .int (nI kz), .ref ka, .ref kd, .ref kp, .int (nI (mRp X mz v_39.2.1 v_39.2.2 PD dg 1).2.1), .int (bI (mRp X mz v_39.2.1 v_39.2.2 PD dg 1).2.2.1)])), (tx, .inl (c1, 256, .inl X)), (pt, .inl (c2, 256, .inl (mRp X mz v_39.2.1 v_39.2.2 PD dg 1).2.2.2.1))] := hD
            generalize e_95 : mRp X mz v_39.2.1 v_39.2.2 PD dg 1 = v_95 at hP hD ⊢
            have hP : va_P (dC, dI) kcl [(q, .inr (5, [.int th, .ref tx, .int (nI mz), .int fl, .int (bI it), .long al, .ref pt, .int (nI v_95.2.2.2.2), .ref ot, .int (nI wr), .int (nI kz), .ref ka, .ref kd, .ref kp, .int (nI v_95.2.1), .int (bI v_95.2.2.1)])), (tx, .inl (c1, 256, .inl X)), (pt, .inl (c2, 256, .inl v_95.2.2.2.1))] H := hP
            have hD : va_D A [(q, .inr (5, [.int th, .ref tx, .int (nI mz), .int fl, .int (bI it), .long al, .ref pt, .int (nI v_95.2.2.2.2), .ref ot, .int (nI wr), .int (nI kz), .ref ka, .ref kd, .ref kp, .int (nI v_95.2.1), .int (bI v_95.2.2.1)])), (tx, .inl (c1, 256, .inl X)), (pt, .inl (c2, 256, .inl v_95.2.2.2.1))] := hD
            refine lv_iadd hx hb dX5_readLong_98 ?_
            refine lv_istore_n (lv' := [(1, .int (((60 * v_19.1) + v_39.1) + v_95.1)), (2, .int 1), (0, .ref q)]) hx hb dX5_readLong_99 rfl hl (by decide) rfl (fun ls hl => ?_)
            refine lv_iload_n hx hb dX5_readLong_100 rfl (lv_at hl 0 rfl) ?_
            have hF9 : mLong X mz ma wg PD dg = (((60 * v_19.1) + v_39.1) + v_95.1, v_95.2.1, v_95.2.2.1, v_95.2.2.2.1, v_95.2.2.2.2) := by
              subst e_95
              subst e_39
              subst e_19
              first | (simp only [mLong, if_neg c_10, if_neg c_31, if_pos c_50, if_neg c_61, if_pos c_75]; done) | rfl
            have hP9 : va_P (dC, dI) kcl [(q, .inr (5, [.int th, .ref tx, .int (nI mz), .int fl, .int (bI it), .long al, .ref pt, .int (nI (mLong X mz ma wg PD dg).2.2.2.2), .ref ot, .int (nI wr), .int (nI kz), .ref ka, .ref kd, .ref kp, .int (nI (mLong X mz ma wg PD dg).2.1), .int (bI (mLong X mz ma wg PD dg).2.2.1)])), (tx, .inl (c1, 256, .inl X)), (pt, .inl (c2, 256, .inl (mLong X mz ma wg PD dg).2.2.2.1))] H := by
              try rw [hF9]
              exact hP.sub [0, 1, 2] rfl
            have hD9 : va_D A [(q, .inr (5, [.int th, .ref tx, .int (nI mz), .int fl, .int (bI it), .long al, .ref pt, .int (nI (mLong X mz ma wg PD dg).2.2.2.2), .ref ot, .int (nI wr), .int (nI kz), .ref ka, .ref kd, .ref kp, .int (nI (mLong X mz ma wg PD dg).2.1), .int (bI (mLong X mz ma wg PD dg).2.2.1)])), (tx, .inl (c1, 256, .inl X)), (pt, .inl (c2, 256, .inl (mLong X mz ma wg PD dg).2.2.2.1))] := by
              try rw [hF9]
              exact hD.sub [0, 1, 2] (by decide) rfl
            have hv9 : ((60 * v_19.1) + v_39.1) + v_95.1 = (mLong X mz ma wg PD dg).1 := by
              try rw [hF9]
              try rfl
            exact kc_iret hx hb hr hlocks hv9 hP9 hD9 hS dX5_readLong_101
          · refine lv_aload_n hx hb dX5_readLong_78 rfl (lv_at hl 2 rfl) ?_
            refine va_get (D := (dC, dI)) (ci := 5) (v := .ref tx) (C := RX5) (T := TX5) (N := 16) hx hb hts kin_5 hown hK hP 1 rfl rfl 1 (by decide) (hts _ (kcm kwm_205)) (fun _ h9 => h9) rfl dX5_readLong_79 ?_
            refine lv_aload_n hx hb dX5_readLong_82 rfl (lv_at hl 2 rfl) ?_
            refine va_get (D := (dC, dI)) (ci := 5) (v := .int (nI v_39.2.1)) (C := RX5) (T := TX5) (N := 16) hx hb hts kin_5 hown hK hP 1 rfl rfl 14 (by decide) (hts _ (kcm kwm_226)) (fun _ h9 => h9) rfl dX5_readLong_83 ?_
            refine va_iald hx hb hK hP 2 0 rfl rfl (vp_in_nI (Nat.lt_of_lt_of_le (kb_lt c_61 (by omega)) (by omega)) (by decide)) dX5_readLong_86 ?_
            rw [show (nI v_39.2.1).toNatClampNeg = v_39.2.1 from nI_clamp (by omega)]
            refine lv_bipush (v := 44) hx hb dX5_readLong_87 (by decide) ?_
            refine lv_icmp_ne (tgt := 100) hx hb dX5_readLong_89 (by decide) (fun c_89 => ?_) (fun c_89 => ?_)
            · refine lv_iload_n hx hb dX5_readLong_100 rfl (lv_at hl 1 rfl) ?_
              have hF9 : mLong X mz ma wg PD dg = ((60 * v_19.1) + v_39.1, v_39.2.1, v_39.2.2, PD, dg) := by
                subst e_39
                subst e_19
                first | (simp only [mLong, if_neg c_10, if_neg c_31, if_pos c_50, if_neg c_61, if_neg c_75, if_neg c_89]; done) | rfl
              have hP9 : va_P (dC, dI) kcl [(q, .inr (5, [.int th, .ref tx, .int (nI mz), .int fl, .int (bI it), .long al, .ref pt, .int (nI (mLong X mz ma wg PD dg).2.2.2.2), .ref ot, .int (nI wr), .int (nI kz), .ref ka, .ref kd, .ref kp, .int (nI (mLong X mz ma wg PD dg).2.1), .int (bI (mLong X mz ma wg PD dg).2.2.1)])), (tx, .inl (c1, 256, .inl X)), (pt, .inl (c2, 256, .inl (mLong X mz ma wg PD dg).2.2.2.1))] H := by
                try rw [hF9]
                exact hP.sub [1, 2, 0] rfl
              have hD9 : va_D A [(q, .inr (5, [.int th, .ref tx, .int (nI mz), .int fl, .int (bI it), .long al, .ref pt, .int (nI (mLong X mz ma wg PD dg).2.2.2.2), .ref ot, .int (nI wr), .int (nI kz), .ref ka, .ref kd, .ref kp, .int (nI (mLong X mz ma wg PD dg).2.1), .int (bI (mLong X mz ma wg PD dg).2.2.1)])), (tx, .inl (c1, 256, .inl X)), (pt, .inl (c2, 256, .inl (mLong X mz ma wg PD dg).2.2.2.1))] := by
                try rw [hF9]
                exact hD.sub [1, 2, 0] (by decide) rfl
              have hv9 : (60 * v_19.1) + v_39.1 = (mLong X mz ma wg PD dg).1 := by
                try rw [hF9]
                try rfl
              exact kc_iret hx hb hr hlocks hv9 hP9 hD9 hS dX5_readLong_101
            · refine lv_iload_n hx hb dX5_readLong_92 rfl (lv_at hl 1 rfl) ?_
              refine lv_aload_n hx hb dX5_readLong_93 rfl (lv_at hl 2 rfl) ?_
              refine lv_iload_n hx hb dX5_readLong_94 rfl (lv_at hl 0 rfl) ?_
              have hPc := hP.sub (ws' := [(q, .inr (5, [.int th, .ref tx, .int (nI mz), .int fl, .int (bI it), .long al, .ref pt, .int (nI dg), .ref ot, .int (nI wr), .int (nI kz), .ref ka, .ref kd, .ref kp, .int (nI v_39.2.1), .int (bI v_39.2.2)])), (tx, .inl (c1, 256, .inl X)), (pt, .inl (c2, 256, .inl PD))]) [1, 2, 0] rfl
              have hDc := hD.sub (ws' := [(q, .inr (5, [.int th, .ref tx, .int (nI mz), .int fl, .int (bI it), .long al, .ref pt, .int (nI dg), .ref ot, .int (nI wr), .int (nI kz), .ref ka, .ref kd, .ref kp, .int (nI v_39.2.1), .int (bI v_39.2.2)])), (tx, .inl (c1, 256, .inl X)), (pt, .inl (c2, 256, .inl PD))]) [1, 2, 0] (by decide) rfl
              have hKc := hK.sub (tys' := [(c1, .int), (c2, .int)]) [0, 1] rfl
              have hFc := va_free (wc := [(q, .inr (5, [.int th, .ref tx, .int (nI mz), .int fl, .int (bI it), .long al, .ref pt, .int (nI dg), .ref ot, .int (nI wr), .int (nI kz), .ref ka, .ref kd, .ref kp, .int (nI v_39.2.1), .int (bI v_39.2.2)])), (tx, .inl (c1, 256, .inl X)), (pt, .inl (c2, 256, .inl PD))]) hD hS hA [1, 2, 0] rfl
              refine kc_calli (val := (mRp X mz v_39.2.1 v_39.2.2 PD dg 1).1) (wr := []) (w1 := [(q, .inr (5, [.int th, .ref tx, .int (nI mz), .int fl, .int (bI it), .long al, .ref pt, .int (nI (mRp X mz v_39.2.1 v_39.2.2 PD dg 1).2.2.2.2), .ref ot, .int (nI wr), .int (nI kz), .ref ka, .ref kd, .ref kp, .int (nI (mRp X mz v_39.2.1 v_39.2.2 PD dg 1).2.1), .int (bI (mRp X mz v_39.2.1 v_39.2.2 PD dg 1).2.2.1)])), (tx, .inl (c1, 256, .inl X)), (pt, .inl (c2, 256, .inl (mRp X mz v_39.2.1 v_39.2.2 PD dg 1).2.2.2.1))]) (va_runV (As := [.int 1]) (rest := [.int ((60 * v_19.1) + v_39.1)]) ⟨hx, hb, hml, hown, hts⟩ (m_readPart l dC dI st H.size q th tx mz fl it al pt dg ot wr kz ka kd kp v_39.2.1 v_39.2.2 c1 X c2 PD 1 hz (by omega) hdg) (cwV 1 hts (kwV kwm_239 kwm_240 kwm_241 kwm_203 kwm_238) rfl rfl rfl (by decide +kernel) ⟨Nat.le_of_ble_eq_true rfl, Nat.le_of_ble_eq_true rfl⟩) ⟨kc_blind, va_recv hKc hPc (ci := 5) (q0 := 0) rfl rfl, kc_pre hG hS hFc hKc hPc hDc⟩ rfl rfl hl.1 rfl (lv_room (Nat.le_of_ble_eq_true rfl)) dX5_readLong_95 ⟨Nat.le_of_ble_eq_true rfl, Nat.le_of_ble_eq_true rfl⟩) hP hD hS hFc [1, 2, 0] [] rfl rfl (by decide) (by decide) (fun H locs hP hD hS => ?_)
              have hP : va_P (dC, dI) kcl [(q, .inr (5, [.int th, .ref tx, .int (nI mz), .int fl, .int (bI it), .long al, .ref pt, .int (nI (mRp X mz v_39.2.1 v_39.2.2 PD dg 1).2.2.2.2), .ref ot, .int (nI wr), .int (nI kz), .ref ka, .ref kd, .ref kp, .int (nI (mRp X mz v_39.2.1 v_39.2.2 PD dg 1).2.1), .int (bI (mRp X mz v_39.2.1 v_39.2.2 PD dg 1).2.2.1)])), (tx, .inl (c1, 256, .inl X)), (pt, .inl (c2, 256, .inl (mRp X mz v_39.2.1 v_39.2.2 PD dg 1).2.2.2.1))] H := hP
              have hD : va_D A [(q, .inr (5, [.int th, .ref tx, .int (nI mz), .int fl, .int (bI it), .long al, .ref pt, .int (nI (mRp X mz v_39.2.1 v_39.2.2 PD dg 1).2.2.2.2), .ref ot, .int (nI wr), .int (nI kz), .ref ka, .ref kd, .ref kp, .int (nI (mRp X mz v_39.2.1 v_39.2.2 PD dg 1).2.1), .int (bI (mRp X mz v_39.2.1 v_39.2.2 PD dg 1).2.2.1)])), (tx, .inl (c1, 256, .inl X)), (pt, .inl (c2, 256, .inl (mRp X mz v_39.2.1 v_39.2.2 PD dg 1).2.2.2.1))] := hD
              generalize e_95 : mRp X mz v_39.2.1 v_39.2.2 PD dg 1 = v_95 at hP hD ⊢
              have hP : va_P (dC, dI) kcl [(q, .inr (5, [.int th, .ref tx, .int (nI mz), .int fl, .int (bI it), .long al, .ref pt, .int (nI v_95.2.2.2.2), .ref ot, .int (nI wr), .int (nI kz), .ref ka, .ref kd, .ref kp, .int (nI v_95.2.1), .int (bI v_95.2.2.1)])), (tx, .inl (c1, 256, .inl X)), (pt, .inl (c2, 256, .inl v_95.2.2.2.1))] H := hP
              have hD : va_D A [(q, .inr (5, [.int th, .ref tx, .int (nI mz), .int fl, .int (bI it), .long al, .ref pt, .int (nI v_95.2.2.2.2), .ref ot, .int (nI wr), .int (nI kz), .ref ka, .ref kd, .ref kp, .int (nI v_95.2.1), .int (bI v_95.2.2.1)])), (tx, .inl (c1, 256, .inl X)), (pt, .inl (c2, 256, .inl v_95.2.2.2.1))] := hD
              refine lv_iadd hx hb dX5_readLong_98 ?_
              refine lv_istore_n (lv' := [(1, .int (((60 * v_19.1) + v_39.1) + v_95.1)), (2, .int 1), (0, .ref q)]) hx hb dX5_readLong_99 rfl hl (by decide) rfl (fun ls hl => ?_)
              refine lv_iload_n hx hb dX5_readLong_100 rfl (lv_at hl 0 rfl) ?_
              have hF9 : mLong X mz ma wg PD dg = (((60 * v_19.1) + v_39.1) + v_95.1, v_95.2.1, v_95.2.2.1, v_95.2.2.2.1, v_95.2.2.2.2) := by
                subst e_95
                subst e_39
                subst e_19
                first | (simp only [mLong, if_neg c_10, if_neg c_31, if_pos c_50, if_neg c_61, if_neg c_75, if_pos c_89]; done) | rfl
              have hP9 : va_P (dC, dI) kcl [(q, .inr (5, [.int th, .ref tx, .int (nI mz), .int fl, .int (bI it), .long al, .ref pt, .int (nI (mLong X mz ma wg PD dg).2.2.2.2), .ref ot, .int (nI wr), .int (nI kz), .ref ka, .ref kd, .ref kp, .int (nI (mLong X mz ma wg PD dg).2.1), .int (bI (mLong X mz ma wg PD dg).2.2.1)])), (tx, .inl (c1, 256, .inl X)), (pt, .inl (c2, 256, .inl (mLong X mz ma wg PD dg).2.2.2.1))] H := by
                try rw [hF9]
                exact hP.sub [0, 1, 2] rfl
              have hD9 : va_D A [(q, .inr (5, [.int th, .ref tx, .int (nI mz), .int fl, .int (bI it), .long al, .ref pt, .int (nI (mLong X mz ma wg PD dg).2.2.2.2), .ref ot, .int (nI wr), .int (nI kz), .ref ka, .ref kd, .ref kp, .int (nI (mLong X mz ma wg PD dg).2.1), .int (bI (mLong X mz ma wg PD dg).2.2.1)])), (tx, .inl (c1, 256, .inl X)), (pt, .inl (c2, 256, .inl (mLong X mz ma wg PD dg).2.2.2.1))] := by
                try rw [hF9]
                exact hD.sub [0, 1, 2] (by decide) rfl
              have hv9 : ((60 * v_19.1) + v_39.1) + v_95.1 = (mLong X mz ma wg PD dg).1 := by
                try rw [hF9]
                try rfl
              exact kc_iret hx hb hr hlocks hv9 hP9 hD9 hS dX5_readLong_101
def mShort (X : Nat → Int32) (mz ma : Nat) (wg : Bool) : Int32 × Nat × Bool :=
  let v_6 := mTwo X mz ma wg 0 59
  if (bI (mDig X mz v_6.2.1)) = 0 then
    (60 * v_6.1, v_6.2.1, v_6.2.2)
  else
    let v_23 := mTwo X mz v_6.2.1 v_6.2.2 0 59
    ((60 * v_6.1) + v_23.1, v_23.2.1, v_23.2.2)
set_option maxHeartbeats 4000000 in
set_option maxRecDepth 100000 in
theorem m_readShort (l : Launch) (dC : Nat → ClassId) (dI : Nat → Nat → Nat) (st sz : Nat) (q : Nat) (th : Int32) (tx : Nat) (mz : Nat) (fl : Int32) (it : Bool) (al : Int64) (pt : Nat) (dg : Nat) (ot : Nat) (wr : Nat) (kz : Nat) (ka : Nat) (kd : Nat) (kp : Nat) (ma : Nat) (wg : Bool) (c1 : ClassId) (X : Nat → Int32) (hz : mz ≤ 242) (ha : ma ≤ 700) : Met l yX5_readShort wsX5_readShort ({ frames := 3, cells := 0, slots := 0, locals := 66 }) (kc_Pc (dC, dI) kcl st sz [.ref q] [(q, .inr (5, [.int th, .ref tx, .int (nI mz), .int fl, .int (bI it), .long al, .ref pt, .int (nI dg), .ref ot, .int (nI wr), .int (nI kz), .ref ka, .ref kd, .ref kp, .int (nI ma), .int (bI wg)])), (tx, .inl (c1, 256, .inl X))] [(c1, .int)]) (kc_Qi (dC, dI) kcl (mShort X mz ma wg).1 [(q, .inr (5, [.int th, .ref tx, .int (nI mz), .int fl, .int (bI it), .long al, .ref pt, .int (nI dg), .ref ot, .int (nI wr), .int (nI kz), .ref ka, .ref kd, .ref kp, .int (nI (mShort X mz ma wg).2.1), .int (bI (mShort X mz ma wg).2.2)])), (tx, .inl (c1, 256, .inl X))] (va_A [(q, .inr (5, [.int th, .ref tx, .int (nI mz), .int fl, .int (bI it), .long al, .ref pt, .int (nI dg), .ref ot, .int (nI wr), .int (nI kz), .ref ka, .ref kd, .ref kp, .int (nI ma), .int (bI wg)])), (tx, .inl (c1, 256, .inl X))] sz)) 0 0 (va_A [(q, .inr (5, [.int th, .ref tx, .int (nI mz), .int fl, .int (bI it), .long al, .ref pt, .int (nI dg), .ref ot, .int (nI wr), .int (nI kz), .ref ka, .ref kd, .ref kp, .int (nI ma), .int (bI wg)])), (tx, .inl (c1, 256, .inl X))] sz) := by
  refine kc_ofW (Qc := fun A => (kc_Qi (dC, dI) kcl (mShort X mz ma wg).1 [(q, .inr (5, [.int th, .ref tx, .int (nI mz), .int fl, .int (bI it), .long al, .ref pt, .int (nI dg), .ref ot, .int (nI wr), .int (nI kz), .ref ka, .ref kd, .ref kp, .int (nI (mShort X mz ma wg).2.1), .int (bI (mShort X mz ma wg).2.2)])), (tx, .inl (c1, 256, .inl X))] A)) (cc := cX5_readShort) (maxL := 2) (ret := (some .int)) (by decide) rfl (Nat.le_of_ble_eq_true rfl) ?_
  intro p e s m below meth c A ls Cx hA hG hK hP hD hS hl
  obtain ⟨hx, hb, hr, hml, hown, hts, hlocks, hnm⟩ := id Cx
  have hl : lv_has ls 2 [(0, .ref q)] := hl
  refine lv_bipush (v := 60) hx hb dX5_readShort_0 (by decide) ?_
  refine lv_aload_n hx hb dX5_readShort_2 rfl (lv_at hl 0 rfl) ?_
  refine lv_iconst (v := 0) hx hb dX5_readShort_3 (by decide) ?_
  refine lv_bipush (v := 59) hx hb dX5_readShort_4 (by decide) ?_
  have hPc := hP.sub (ws' := [(q, .inr (5, [.int th, .ref tx, .int (nI mz), .int fl, .int (bI it), .long al, .ref pt, .int (nI dg), .ref ot, .int (nI wr), .int (nI kz), .ref ka, .ref kd, .ref kp, .int (nI ma), .int (bI wg)])), (tx, .inl (c1, 256, .inl X))]) [0, 1] rfl
  have hDc := hD.sub (ws' := [(q, .inr (5, [.int th, .ref tx, .int (nI mz), .int fl, .int (bI it), .long al, .ref pt, .int (nI dg), .ref ot, .int (nI wr), .int (nI kz), .ref ka, .ref kd, .ref kp, .int (nI ma), .int (bI wg)])), (tx, .inl (c1, 256, .inl X))]) [0, 1] (by decide) rfl
  have hKc := hK.sub (tys' := [(c1, .int)]) [0] rfl
  have hFc := va_free (wc := [(q, .inr (5, [.int th, .ref tx, .int (nI mz), .int fl, .int (bI it), .long al, .ref pt, .int (nI dg), .ref ot, .int (nI wr), .int (nI kz), .ref ka, .ref kd, .ref kp, .int (nI ma), .int (bI wg)])), (tx, .inl (c1, 256, .inl X))]) hD hS hA [0, 1] rfl
  refine kc_calli (val := (mTwo X mz ma wg 0 59).1) (wr := []) (w1 := [(q, .inr (5, [.int th, .ref tx, .int (nI mz), .int fl, .int (bI it), .long al, .ref pt, .int (nI dg), .ref ot, .int (nI wr), .int (nI kz), .ref ka, .ref kd, .ref kp, .int (nI (mTwo X mz ma wg 0 59).2.1), .int (bI (mTwo X mz ma wg 0 59).2.2)])), (tx, .inl (c1, 256, .inl X))]) (va_runV (As := [.int 0, .int 59]) (rest := [.int 60]) ⟨hx, hb, hml, hown, hts⟩ (m_two l dC dI st s.heap.size q th tx mz fl it al pt dg ot wr kz ka kd kp ma wg c1 X 0 59 hz (by omega)) (cwV 2 hts (kwV kwm_243 kwm_244 kwm_245 kwm_203 kwm_242) rfl rfl rfl (by decide +kernel) ⟨Nat.le_of_ble_eq_true rfl, Nat.le_of_ble_eq_true rfl⟩) ⟨kc_blind, va_recv hKc hPc (ci := 5) (q0 := 0) rfl rfl, kc_pre hG hS hFc hKc hPc hDc⟩ rfl rfl hl.1 rfl (lv_room (Nat.le_of_ble_eq_true rfl)) dX5_readShort_6 ⟨Nat.le_of_ble_eq_true rfl, Nat.le_of_ble_eq_true rfl⟩) hP hD hS hFc [0, 1] [] rfl rfl (by decide) (by decide) (fun H locs hP hD hS => ?_)
  have hP : va_P (dC, dI) kcl [(q, .inr (5, [.int th, .ref tx, .int (nI mz), .int fl, .int (bI it), .long al, .ref pt, .int (nI dg), .ref ot, .int (nI wr), .int (nI kz), .ref ka, .ref kd, .ref kp, .int (nI (mTwo X mz ma wg 0 59).2.1), .int (bI (mTwo X mz ma wg 0 59).2.2)])), (tx, .inl (c1, 256, .inl X))] H := hP
  have hD : va_D A [(q, .inr (5, [.int th, .ref tx, .int (nI mz), .int fl, .int (bI it), .long al, .ref pt, .int (nI dg), .ref ot, .int (nI wr), .int (nI kz), .ref ka, .ref kd, .ref kp, .int (nI (mTwo X mz ma wg 0 59).2.1), .int (bI (mTwo X mz ma wg 0 59).2.2)])), (tx, .inl (c1, 256, .inl X))] := hD
  generalize e_6 : mTwo X mz ma wg 0 59 = v_6 at hP hD ⊢
  have hP : va_P (dC, dI) kcl [(q, .inr (5, [.int th, .ref tx, .int (nI mz), .int fl, .int (bI it), .long al, .ref pt, .int (nI dg), .ref ot, .int (nI wr), .int (nI kz), .ref ka, .ref kd, .ref kp, .int (nI v_6.2.1), .int (bI v_6.2.2)])), (tx, .inl (c1, 256, .inl X))] H := hP
  have hD : va_D A [(q, .inr (5, [.int th, .ref tx, .int (nI mz), .int fl, .int (bI it), .long al, .ref pt, .int (nI dg), .ref ot, .int (nI wr), .int (nI kz), .ref ka, .ref kd, .ref kp, .int (nI v_6.2.1), .int (bI v_6.2.2)])), (tx, .inl (c1, 256, .inl X))] := hD
  have hv6 : v_6.2.1 ≤ ma + 2 := by rw [← e_6]; exact mTwo_at
  refine lv_imul hx hb dX5_readShort_9 ?_
  refine lv_istore_n (lv' := [(1, .int (60 * v_6.1)), (0, .ref q)]) hx hb dX5_readShort_10 rfl hl (by decide) rfl (fun ls hl => ?_)
  refine lv_aload_n hx hb dX5_readShort_11 rfl (lv_at hl 1 rfl) ?_
  have hPc := hP.sub (ws' := [(q, .inr (5, [.int th, .ref tx, .int (nI mz), .int fl, .int (bI it), .long al, .ref pt, .int (nI dg), .ref ot, .int (nI wr), .int (nI kz), .ref ka, .ref kd, .ref kp, .int (nI v_6.2.1), .int (bI v_6.2.2)])), (tx, .inl (c1, 256, .inl X))]) [0, 1] rfl
  have hDc := hD.sub (ws' := [(q, .inr (5, [.int th, .ref tx, .int (nI mz), .int fl, .int (bI it), .long al, .ref pt, .int (nI dg), .ref ot, .int (nI wr), .int (nI kz), .ref ka, .ref kd, .ref kp, .int (nI v_6.2.1), .int (bI v_6.2.2)])), (tx, .inl (c1, 256, .inl X))]) [0, 1] (by decide) rfl
  have hKc := hK.sub (tys' := [(c1, .int)]) [0] rfl
  have hFc := va_free (wc := [(q, .inr (5, [.int th, .ref tx, .int (nI mz), .int fl, .int (bI it), .long al, .ref pt, .int (nI dg), .ref ot, .int (nI wr), .int (nI kz), .ref ka, .ref kd, .ref kp, .int (nI v_6.2.1), .int (bI v_6.2.2)])), (tx, .inl (c1, 256, .inl X))]) hD hS hA [0, 1] rfl
  refine kc_callSi (val := bI (mDig X mz v_6.2.1)) (va_runV (As := []) (rest := []) ⟨hx, hb, hml, hown, hts⟩ (m_isDigit l dC dI st H.size q th tx mz fl it al pt dg ot wr kz ka kd kp v_6.2.1 v_6.2.2 c1 X hz (by omega)) (cwV 0 hts (kwV kwm_228 kwm_229 kwm_230 kwm_203 kwm_227) rfl rfl rfl (by decide +kernel) ⟨Nat.le_of_ble_eq_true rfl, Nat.le_of_ble_eq_true rfl⟩) ⟨kc_blind, va_recv hKc hPc (ci := 5) (q0 := 0) rfl rfl, kc_pre hG hS hFc hKc hPc hDc⟩ rfl rfl hl.1 rfl (lv_room (Nat.le_of_ble_eq_true rfl)) dX5_readShort_12 ⟨Nat.le_of_ble_eq_true rfl, Nat.le_of_ble_eq_true rfl⟩) ?_
  refine lv_if_eq (tgt := 30) hx hb dX5_readShort_15 (by decide) (fun c_15 => ?_) (fun c_15 => ?_)
  · refine lv_iload_n hx hb dX5_readShort_30 rfl (lv_at hl 0 rfl) ?_
    have hF9 : mShort X mz ma wg = (60 * v_6.1, v_6.2.1, v_6.2.2) := by
      subst e_6
      first | (simp only [mShort, if_pos c_15]; done) | rfl
    have hP9 : va_P (dC, dI) kcl [(q, .inr (5, [.int th, .ref tx, .int (nI mz), .int fl, .int (bI it), .long al, .ref pt, .int (nI dg), .ref ot, .int (nI wr), .int (nI kz), .ref ka, .ref kd, .ref kp, .int (nI (mShort X mz ma wg).2.1), .int (bI (mShort X mz ma wg).2.2)])), (tx, .inl (c1, 256, .inl X))] H := by
      try rw [hF9]
      exact hP.sub [0, 1] rfl
    have hD9 : va_D A [(q, .inr (5, [.int th, .ref tx, .int (nI mz), .int fl, .int (bI it), .long al, .ref pt, .int (nI dg), .ref ot, .int (nI wr), .int (nI kz), .ref ka, .ref kd, .ref kp, .int (nI (mShort X mz ma wg).2.1), .int (bI (mShort X mz ma wg).2.2)])), (tx, .inl (c1, 256, .inl X))] := by
      try rw [hF9]
      exact hD.sub [0, 1] (by decide) rfl
    have hv9 : 60 * v_6.1 = (mShort X mz ma wg).1 := by
      try rw [hF9]
      try rfl
    exact kc_iret hx hb hr hlocks hv9 hP9 hD9 hS dX5_readShort_31
  · refine lv_iload_n hx hb dX5_readShort_18 rfl (lv_at hl 0 rfl) ?_
    refine lv_aload_n hx hb dX5_readShort_19 rfl (lv_at hl 1 rfl) ?_
    refine lv_iconst (v := 0) hx hb dX5_readShort_20 (by decide) ?_
    refine lv_bipush (v := 59) hx hb dX5_readShort_21 (by decide) ?_
    have hPc := hP.sub (ws' := [(q, .inr (5, [.int th, .ref tx, .int (nI mz), .int fl, .int (bI it), .long al, .ref pt, .int (nI dg), .ref ot, .int (nI wr), .int (nI kz), .ref ka, .ref kd, .ref kp, .int (nI v_6.2.1), .int (bI v_6.2.2)])), (tx, .inl (c1, 256, .inl X))]) [0, 1] rfl
    have hDc := hD.sub (ws' := [(q, .inr (5, [.int th, .ref tx, .int (nI mz), .int fl, .int (bI it), .long al, .ref pt, .int (nI dg), .ref ot, .int (nI wr), .int (nI kz), .ref ka, .ref kd, .ref kp, .int (nI v_6.2.1), .int (bI v_6.2.2)])), (tx, .inl (c1, 256, .inl X))]) [0, 1] (by decide) rfl
    have hKc := hK.sub (tys' := [(c1, .int)]) [0] rfl
    have hFc := va_free (wc := [(q, .inr (5, [.int th, .ref tx, .int (nI mz), .int fl, .int (bI it), .long al, .ref pt, .int (nI dg), .ref ot, .int (nI wr), .int (nI kz), .ref ka, .ref kd, .ref kp, .int (nI v_6.2.1), .int (bI v_6.2.2)])), (tx, .inl (c1, 256, .inl X))]) hD hS hA [0, 1] rfl
    refine kc_calli (val := (mTwo X mz v_6.2.1 v_6.2.2 0 59).1) (wr := []) (w1 := [(q, .inr (5, [.int th, .ref tx, .int (nI mz), .int fl, .int (bI it), .long al, .ref pt, .int (nI dg), .ref ot, .int (nI wr), .int (nI kz), .ref ka, .ref kd, .ref kp, .int (nI (mTwo X mz v_6.2.1 v_6.2.2 0 59).2.1), .int (bI (mTwo X mz v_6.2.1 v_6.2.2 0 59).2.2)])), (tx, .inl (c1, 256, .inl X))]) (va_runV (As := [.int 0, .int 59]) (rest := [.int (60 * v_6.1)]) ⟨hx, hb, hml, hown, hts⟩ (m_two l dC dI st H.size q th tx mz fl it al pt dg ot wr kz ka kd kp v_6.2.1 v_6.2.2 c1 X 0 59 hz (by omega)) (cwV 2 hts (kwV kwm_243 kwm_244 kwm_245 kwm_203 kwm_242) rfl rfl rfl (by decide +kernel) ⟨Nat.le_of_ble_eq_true rfl, Nat.le_of_ble_eq_true rfl⟩) ⟨kc_blind, va_recv hKc hPc (ci := 5) (q0 := 0) rfl rfl, kc_pre hG hS hFc hKc hPc hDc⟩ rfl rfl hl.1 rfl (lv_room (Nat.le_of_ble_eq_true rfl)) dX5_readShort_23 ⟨Nat.le_of_ble_eq_true rfl, Nat.le_of_ble_eq_true rfl⟩) hP hD hS hFc [0, 1] [] rfl rfl (by decide) (by decide) (fun H locs hP hD hS => ?_)
    have hP : va_P (dC, dI) kcl [(q, .inr (5, [.int th, .ref tx, .int (nI mz), .int fl, .int (bI it), .long al, .ref pt, .int (nI dg), .ref ot, .int (nI wr), .int (nI kz), .ref ka, .ref kd, .ref kp, .int (nI (mTwo X mz v_6.2.1 v_6.2.2 0 59).2.1), .int (bI (mTwo X mz v_6.2.1 v_6.2.2 0 59).2.2)])), (tx, .inl (c1, 256, .inl X))] H := hP
    have hD : va_D A [(q, .inr (5, [.int th, .ref tx, .int (nI mz), .int fl, .int (bI it), .long al, .ref pt, .int (nI dg), .ref ot, .int (nI wr), .int (nI kz), .ref ka, .ref kd, .ref kp, .int (nI (mTwo X mz v_6.2.1 v_6.2.2 0 59).2.1), .int (bI (mTwo X mz v_6.2.1 v_6.2.2 0 59).2.2)])), (tx, .inl (c1, 256, .inl X))] := hD
    generalize e_23 : mTwo X mz v_6.2.1 v_6.2.2 0 59 = v_23 at hP hD ⊢
    have hP : va_P (dC, dI) kcl [(q, .inr (5, [.int th, .ref tx, .int (nI mz), .int fl, .int (bI it), .long al, .ref pt, .int (nI dg), .ref ot, .int (nI wr), .int (nI kz), .ref ka, .ref kd, .ref kp, .int (nI v_23.2.1), .int (bI v_23.2.2)])), (tx, .inl (c1, 256, .inl X))] H := hP
    have hD : va_D A [(q, .inr (5, [.int th, .ref tx, .int (nI mz), .int fl, .int (bI it), .long al, .ref pt, .int (nI dg), .ref ot, .int (nI wr), .int (nI kz), .ref ka, .ref kd, .ref kp, .int (nI v_23.2.1), .int (bI v_23.2.2)])), (tx, .inl (c1, 256, .inl X))] := hD
    have hv23 : v_23.2.1 ≤ v_6.2.1 + 2 := by rw [← e_23]; exact mTwo_at
    refine lv_iadd hx hb dX5_readShort_26 ?_
    refine lv_goto (tgt := 31) hx hb dX5_readShort_27 (by decide) ?_
    have hF9 : mShort X mz ma wg = ((60 * v_6.1) + v_23.1, v_23.2.1, v_23.2.2) := by
      subst e_23
      subst e_6
      first | (simp only [mShort, if_neg c_15]; done) | rfl
    have hP9 : va_P (dC, dI) kcl [(q, .inr (5, [.int th, .ref tx, .int (nI mz), .int fl, .int (bI it), .long al, .ref pt, .int (nI dg), .ref ot, .int (nI wr), .int (nI kz), .ref ka, .ref kd, .ref kp, .int (nI (mShort X mz ma wg).2.1), .int (bI (mShort X mz ma wg).2.2)])), (tx, .inl (c1, 256, .inl X))] H := by
      try rw [hF9]
      exact hP.sub [0, 1] rfl
    have hD9 : va_D A [(q, .inr (5, [.int th, .ref tx, .int (nI mz), .int fl, .int (bI it), .long al, .ref pt, .int (nI dg), .ref ot, .int (nI wr), .int (nI kz), .ref ka, .ref kd, .ref kp, .int (nI (mShort X mz ma wg).2.1), .int (bI (mShort X mz ma wg).2.2)])), (tx, .inl (c1, 256, .inl X))] := by
      try rw [hF9]
      exact hD.sub [0, 1] (by decide) rfl
    have hv9 : (60 * v_6.1) + v_23.1 = (mShort X mz ma wg).1 := by
      try rw [hF9]
      try rfl
    exact kc_iret hx hb hr hlocks hv9 hP9 hD9 hS dX5_readShort_31
def mZone (X : Nat → Int32) (mz ma : Nat) (wg : Bool) (kind : Int32) : Int32 × Nat × Bool :=
  if (nI mz) ≤ (nI ma) then
    if (bI wg) = 0 then
      let v_78 := mTwo X mz (ma + 1) true 0 23
      if kind = 0 then
        let v_101 := mTwo X mz v_78.2.1 v_78.2.2 0 59
        (0 - ((3600 * v_78.1) + (60 * v_101.1)), v_101.2.1, v_101.2.2)
      else
        if (bI (mDig X mz v_78.2.1)) = 0 then
          (0 - (3600 * v_78.1), v_78.2.1, v_78.2.2)
        else
          let v_101 := mTwo X mz v_78.2.1 v_78.2.2 0 59
          (0 - ((3600 * v_78.1) + (60 * v_101.1)), v_101.2.1, v_101.2.2)
    else
      let v_78 := mTwo X mz (ma + 1) true 0 23
      if kind = 0 then
        let v_101 := mTwo X mz v_78.2.1 v_78.2.2 0 59
        (0 - ((3600 * v_78.1) + (60 * v_101.1)), v_101.2.1, v_101.2.2)
      else
        if (bI (mDig X mz v_78.2.1)) = 0 then
          (0 - (3600 * v_78.1), v_78.2.1, v_78.2.2)
        else
          let v_101 := mTwo X mz v_78.2.1 v_78.2.2 0 59
          (0 - ((3600 * v_78.1) + (60 * v_101.1)), v_101.2.1, v_101.2.2)
  else
    if (X ma) = 90 then
      (0, (ma + 1), wg)
    else
      if (bI wg) = 0 then
        if (X ma) = 43 then
          let v_78 := mTwo X mz (ma + 1) false 0 23
          if kind = 0 then
            let v_101 := mTwo X mz v_78.2.1 v_78.2.2 0 59
            ((3600 * v_78.1) + (60 * v_101.1), v_101.2.1, v_101.2.2)
          else
            if (bI (mDig X mz v_78.2.1)) = 0 then
              (3600 * v_78.1, v_78.2.1, v_78.2.2)
            else
              let v_101 := mTwo X mz v_78.2.1 v_78.2.2 0 59
              ((3600 * v_78.1) + (60 * v_101.1), v_101.2.1, v_101.2.2)
        else
          if (X ma) = 45 then
            let v_78 := mTwo X mz (ma + 1) false 0 23
            if kind = 0 then
              let v_101 := mTwo X mz v_78.2.1 v_78.2.2 0 59
              (0 - ((3600 * v_78.1) + (60 * v_101.1)), v_101.2.1, v_101.2.2)
            else
              if (bI (mDig X mz v_78.2.1)) = 0 then
                (0 - (3600 * v_78.1), v_78.2.1, v_78.2.2)
              else
                let v_101 := mTwo X mz v_78.2.1 v_78.2.2 0 59
                (0 - ((3600 * v_78.1) + (60 * v_101.1)), v_101.2.1, v_101.2.2)
          else
            let v_78 := mTwo X mz (ma + 1) true 0 23
            if kind = 0 then
              let v_101 := mTwo X mz v_78.2.1 v_78.2.2 0 59
              (0 - ((3600 * v_78.1) + (60 * v_101.1)), v_101.2.1, v_101.2.2)
            else
              if (bI (mDig X mz v_78.2.1)) = 0 then
                (0 - (3600 * v_78.1), v_78.2.1, v_78.2.2)
              else
                let v_101 := mTwo X mz v_78.2.1 v_78.2.2 0 59
                (0 - ((3600 * v_78.1) + (60 * v_101.1)), v_101.2.1, v_101.2.2)
      else
        let v_78 := mTwo X mz (ma + 1) true 0 23
        if kind = 0 then
          let v_101 := mTwo X mz v_78.2.1 v_78.2.2 0 59
          if (X ma) = 43 then
            ((3600 * v_78.1) + (60 * v_101.1), v_101.2.1, v_101.2.2)
          else
            (0 - ((3600 * v_78.1) + (60 * v_101.1)), v_101.2.1, v_101.2.2)
        else
          if (bI (mDig X mz v_78.2.1)) = 0 then
            if (X ma) = 43 then
              (3600 * v_78.1, v_78.2.1, v_78.2.2)
            else
              (0 - (3600 * v_78.1), v_78.2.1, v_78.2.2)
          else
            let v_101 := mTwo X mz v_78.2.1 v_78.2.2 0 59
            if (X ma) = 43 then
              ((3600 * v_78.1) + (60 * v_101.1), v_101.2.1, v_101.2.2)
            else
              (0 - ((3600 * v_78.1) + (60 * v_101.1)), v_101.2.1, v_101.2.2)
set_option maxHeartbeats 4000000 in
set_option maxRecDepth 100000 in
theorem m_readZone (l : Launch) (dC : Nat → ClassId) (dI : Nat → Nat → Nat) (st sz : Nat) (q : Nat) (th : Int32) (tx : Nat) (mz : Nat) (fl : Int32) (it : Bool) (al : Int64) (pt : Nat) (dg : Nat) (ot : Nat) (wr : Nat) (kz : Nat) (ka : Nat) (kd : Nat) (kp : Nat) (ma : Nat) (wg : Bool) (c1 : ClassId) (X : Nat → Int32) (kind : Int32) (hz : mz ≤ 242) (ha : ma ≤ 750) : Met l yX5_readZone wsX5_readZone ({ frames := 3, cells := 0, slots := 0, locals := 66 }) (kc_Pc (dC, dI) kcl st sz [.ref q, .int kind] [(q, .inr (5, [.int th, .ref tx, .int (nI mz), .int fl, .int (bI it), .long al, .ref pt, .int (nI dg), .ref ot, .int (nI wr), .int (nI kz), .ref ka, .ref kd, .ref kp, .int (nI ma), .int (bI wg)])), (tx, .inl (c1, 256, .inl X))] [(c1, .int)]) (kc_Qi (dC, dI) kcl (mZone X mz ma wg kind).1 [(q, .inr (5, [.int th, .ref tx, .int (nI mz), .int fl, .int (bI it), .long al, .ref pt, .int (nI dg), .ref ot, .int (nI wr), .int (nI kz), .ref ka, .ref kd, .ref kp, .int (nI (mZone X mz ma wg kind).2.1), .int (bI (mZone X mz ma wg kind).2.2)])), (tx, .inl (c1, 256, .inl X))] (va_A [(q, .inr (5, [.int th, .ref tx, .int (nI mz), .int fl, .int (bI it), .long al, .ref pt, .int (nI dg), .ref ot, .int (nI wr), .int (nI kz), .ref ka, .ref kd, .ref kp, .int (nI ma), .int (bI wg)])), (tx, .inl (c1, 256, .inl X))] sz)) 0 0 (va_A [(q, .inr (5, [.int th, .ref tx, .int (nI mz), .int fl, .int (bI it), .long al, .ref pt, .int (nI dg), .ref ot, .int (nI wr), .int (nI kz), .ref ka, .ref kd, .ref kp, .int (nI ma), .int (bI wg)])), (tx, .inl (c1, 256, .inl X))] sz) := by
  refine kc_ofW (Qc := fun A => (kc_Qi (dC, dI) kcl (mZone X mz ma wg kind).1 [(q, .inr (5, [.int th, .ref tx, .int (nI mz), .int fl, .int (bI it), .long al, .ref pt, .int (nI dg), .ref ot, .int (nI wr), .int (nI kz), .ref ka, .ref kd, .ref kp, .int (nI (mZone X mz ma wg kind).2.1), .int (bI (mZone X mz ma wg kind).2.2)])), (tx, .inl (c1, 256, .inl X))] A)) (cc := cX5_readZone) (maxL := 4) (ret := (some .int)) (by decide) rfl (Nat.le_of_ble_eq_true rfl) ?_
  intro p e s m below meth c A ls Cx hA hG hK hP hD hS hl
  obtain ⟨hx, hb, hr, hml, hown, hts, hlocks, hnm⟩ := id Cx
  have hl : lv_has ls 4 [(0, .ref q), (1, .int kind)] := hl
  refine lv_aload_n hx hb dX5_readZone_0 rfl (lv_at hl 0 rfl) ?_
  refine va_get (D := (dC, dI)) (ci := 5) (v := .int (nI ma)) (C := RX5) (T := TX5) (N := 16) hx hb hts kin_5 hown hK hP 0 rfl rfl 14 (by decide) (hts _ (kcm kwm_226)) (fun _ h9 => h9) rfl dX5_readZone_1 ?_
  refine lv_aload_n hx hb dX5_readZone_4 rfl (lv_at hl 0 rfl) ?_
  refine va_get (D := (dC, dI)) (ci := 5) (v := .int (nI mz)) (C := RX5) (T := TX5) (N := 16) hx hb hts kin_5 hown hK hP 0 rfl rfl 2 (by decide) (hts _ (kcm kwm_206)) (fun _ h9 => h9) rfl dX5_readZone_5 ?_
  refine lv_icmp_ge (tgt := 23) hx hb dX5_readZone_8 (by decide) (fun c_8 => ?_) (fun c_8 => ?_)
  · refine lv_iconst (v := 0) hx hb dX5_readZone_23 (by decide) ?_
    refine lv_istore_n (lv' := [(2, .int 0), (0, .ref q), (1, .int kind)]) hx hb dX5_readZone_24 rfl hl (by decide) rfl (fun ls hl => ?_)
    refine lv_aload_n hx hb dX5_readZone_25 rfl (lv_at hl 1 rfl) ?_
    refine lv_dup hx hb dX5_readZone_26 rfl ?_
    refine va_get (D := (dC, dI)) (ci := 5) (v := .int (nI ma)) (C := RX5) (T := TX5) (N := 16) hx hb hts kin_5 hown hK hP 0 rfl rfl 14 (by decide) (hts _ (kcm kwm_226)) (fun _ h9 => h9) rfl dX5_readZone_27 ?_
    refine lv_iconst (v := 1) hx hb dX5_readZone_30 (by decide) ?_
    refine lv_iadd hx hb dX5_readZone_31 ?_
    rw [show (nI ma) + 1 = nI (ma + 1) from nI_add ma 1]
    refine va_put (D := (dC, dI)) (ci := 5) (v := .int (nI (ma + 1))) (ty := .int) (C := RX5) (T := TX5) (N := 16) hx hb hts kin_5 tyX5 tyX5_ok nmX5 hown hK hP hD hS 0 rfl rfl 14 (by decide) (hts _ (kcm kwm_226)) (fun _ h9 => h9) rfl (by decide +kernel) rfl rfl (Nat.le_of_ble_eq_true rfl) dX5_readZone_32 (fun H locs hP hD hS => ?_)
    have hP : va_P (dC, dI) kcl [(q, .inr (5, [.int th, .ref tx, .int (nI mz), .int fl, .int (bI it), .long al, .ref pt, .int (nI dg), .ref ot, .int (nI wr), .int (nI kz), .ref ka, .ref kd, .ref kp, .int (nI (ma + 1)), .int (bI wg)])), (tx, .inl (c1, 256, .inl X))] H := hP
    have hD : va_D A [(q, .inr (5, [.int th, .ref tx, .int (nI mz), .int fl, .int (bI it), .long al, .ref pt, .int (nI dg), .ref ot, .int (nI wr), .int (nI kz), .ref ka, .ref kd, .ref kp, .int (nI (ma + 1)), .int (bI wg)])), (tx, .inl (c1, 256, .inl X))] := hD
    refine lv_iload_n hx hb dX5_readZone_35 rfl (lv_at hl 0 rfl) ?_
    refine lv_bipush (v := 90) hx hb dX5_readZone_36 (by decide) ?_
    refine lv_icmp_ne (tgt := 43) hx hb dX5_readZone_38 (by decide) (fun c_38 => ?_) (fun c_38 => ?_)
    · refine lv_aload_n hx hb dX5_readZone_43 rfl (lv_at hl 1 rfl) ?_
      refine lv_aload_n hx hb dX5_readZone_44 rfl (lv_at hl 1 rfl) ?_
      refine va_get (D := (dC, dI)) (ci := 5) (v := .int (bI wg)) (C := RX5) (T := TX5) (N := 16) hx hb hts kin_5 hown hK hP 0 rfl rfl 15 (by decide) (hts _ (kcm kwm_235)) (fun _ h9 => h9) rfl dX5_readZone_45 ?_
      refine lv_if_ne (tgt := 63) hx hb dX5_readZone_48 (by decide) (fun c_48 => ?_) (fun c_48 => ?_)
      · refine lv_iconst (v := 1) hx hb dX5_readZone_63 (by decide) ?_
        refine lv_goto (tgt := 68) hx hb dX5_readZone_64 (by decide) ?_
        refine va_put (D := (dC, dI)) (ci := 5) (v := .int 1) (ty := .boolean) (C := RX5) (T := TX5) (N := 16) hx hb hts kin_5 tyX5 tyX5_ok nmX5 hown hK hP hD hS 0 rfl rfl 15 (by decide) (hts _ (kcm kwm_235)) (fun _ h9 => h9) rfl (by decide +kernel) rfl rfl (Nat.le_of_ble_eq_true rfl) dX5_readZone_68 (fun H locs hP hD hS => ?_)
        have hP : va_P (dC, dI) kcl [(q, .inr (5, [.int th, .ref tx, .int (nI mz), .int fl, .int (bI it), .long al, .ref pt, .int (nI dg), .ref ot, .int (nI wr), .int (nI kz), .ref ka, .ref kd, .ref kp, .int (nI (ma + 1)), .int (bI true)])), (tx, .inl (c1, 256, .inl X))] H := hP
        have hD : va_D A [(q, .inr (5, [.int th, .ref tx, .int (nI mz), .int fl, .int (bI it), .long al, .ref pt, .int (nI dg), .ref ot, .int (nI wr), .int (nI kz), .ref ka, .ref kd, .ref kp, .int (nI (ma + 1)), .int (bI true)])), (tx, .inl (c1, 256, .inl X))] := hD
        refine lv_sipush (v := 3600) hx hb dX5_readZone_71 (by decide) ?_
        refine lv_aload_n hx hb dX5_readZone_74 rfl (lv_at hl 1 rfl) ?_
        refine lv_iconst (v := 0) hx hb dX5_readZone_75 (by decide) ?_
        refine lv_bipush (v := 23) hx hb dX5_readZone_76 (by decide) ?_
        have hPc := hP.sub (ws' := [(q, .inr (5, [.int th, .ref tx, .int (nI mz), .int fl, .int (bI it), .long al, .ref pt, .int (nI dg), .ref ot, .int (nI wr), .int (nI kz), .ref ka, .ref kd, .ref kp, .int (nI (ma + 1)), .int (bI true)])), (tx, .inl (c1, 256, .inl X))]) [0, 1] rfl
        have hDc := hD.sub (ws' := [(q, .inr (5, [.int th, .ref tx, .int (nI mz), .int fl, .int (bI it), .long al, .ref pt, .int (nI dg), .ref ot, .int (nI wr), .int (nI kz), .ref ka, .ref kd, .ref kp, .int (nI (ma + 1)), .int (bI true)])), (tx, .inl (c1, 256, .inl X))]) [0, 1] (by decide) rfl
        have hKc := hK.sub (tys' := [(c1, .int)]) [0] rfl
        have hFc := va_free (wc := [(q, .inr (5, [.int th, .ref tx, .int (nI mz), .int fl, .int (bI it), .long al, .ref pt, .int (nI dg), .ref ot, .int (nI wr), .int (nI kz), .ref ka, .ref kd, .ref kp, .int (nI (ma + 1)), .int (bI true)])), (tx, .inl (c1, 256, .inl X))]) hD hS hA [0, 1] rfl
        refine kc_calli (val := (mTwo X mz (ma + 1) true 0 23).1) (wr := []) (w1 := [(q, .inr (5, [.int th, .ref tx, .int (nI mz), .int fl, .int (bI it), .long al, .ref pt, .int (nI dg), .ref ot, .int (nI wr), .int (nI kz), .ref ka, .ref kd, .ref kp, .int (nI (mTwo X mz (ma + 1) true 0 23).2.1), .int (bI (mTwo X mz (ma + 1) true 0 23).2.2)])), (tx, .inl (c1, 256, .inl X))]) (va_runV (As := [.int 0, .int 23]) (rest := [.int 3600]) ⟨hx, hb, hml, hown, hts⟩ (m_two l dC dI st H.size q th tx mz fl it al pt dg ot wr kz ka kd kp (ma + 1) true c1 X 0 23 hz (by omega)) (cwV 2 hts (kwV kwm_243 kwm_244 kwm_245 kwm_203 kwm_242) rfl rfl rfl (by decide +kernel) ⟨Nat.le_of_ble_eq_true rfl, Nat.le_of_ble_eq_true rfl⟩) ⟨kc_blind, va_recv hKc hPc (ci := 5) (q0 := 0) rfl rfl, kc_pre hG hS hFc hKc hPc hDc⟩ rfl rfl hl.1 rfl (lv_room (Nat.le_of_ble_eq_true rfl)) dX5_readZone_78 ⟨Nat.le_of_ble_eq_true rfl, Nat.le_of_ble_eq_true rfl⟩) hP hD hS hFc [0, 1] [] rfl rfl (by decide) (by decide) (fun H locs hP hD hS => ?_)
        have hP : va_P (dC, dI) kcl [(q, .inr (5, [.int th, .ref tx, .int (nI mz), .int fl, .int (bI it), .long al, .ref pt, .int (nI dg), .ref ot, .int (nI wr), .int (nI kz), .ref ka, .ref kd, .ref kp, .int (nI (mTwo X mz (ma + 1) true 0 23).2.1), .int (bI (mTwo X mz (ma + 1) true 0 23).2.2)])), (tx, .inl (c1, 256, .inl X))] H := hP
        have hD : va_D A [(q, .inr (5, [.int th, .ref tx, .int (nI mz), .int fl, .int (bI it), .long al, .ref pt, .int (nI dg), .ref ot, .int (nI wr), .int (nI kz), .ref ka, .ref kd, .ref kp, .int (nI (mTwo X mz (ma + 1) true 0 23).2.1), .int (bI (mTwo X mz (ma + 1) true 0 23).2.2)])), (tx, .inl (c1, 256, .inl X))] := hD
        generalize e_78 : mTwo X mz (ma + 1) true 0 23 = v_78 at hP hD ⊢
        have hP : va_P (dC, dI) kcl [(q, .inr (5, [.int th, .ref tx, .int (nI mz), .int fl, .int (bI it), .long al, .ref pt, .int (nI dg), .ref ot, .int (nI wr), .int (nI kz), .ref ka, .ref kd, .ref kp, .int (nI v_78.2.1), .int (bI v_78.2.2)])), (tx, .inl (c1, 256, .inl X))] H := hP
        have hD : va_D A [(q, .inr (5, [.int th, .ref tx, .int (nI mz), .int fl, .int (bI it), .long al, .ref pt, .int (nI dg), .ref ot, .int (nI wr), .int (nI kz), .ref ka, .ref kd, .ref kp, .int (nI v_78.2.1), .int (bI v_78.2.2)])), (tx, .inl (c1, 256, .inl X))] := hD
        have hv78 : v_78.2.1 ≤ (ma + 1) + 2 := by rw [← e_78]; exact mTwo_at
        refine lv_imul hx hb dX5_readZone_81 ?_
        refine lv_istore_n (lv' := [(3, .int (3600 * v_78.1)), (2, .int 0), (0, .ref q), (1, .int kind)]) hx hb dX5_readZone_82 rfl hl (by decide) rfl (fun ls hl => ?_)
        refine lv_iload_n hx hb dX5_readZone_83 rfl (lv_at hl 3 rfl) ?_
        refine lv_if_eq (tgt := 94) hx hb dX5_readZone_84 (by decide) (fun c_84 => ?_) (fun c_84 => ?_)
        · refine lv_iload_n hx hb dX5_readZone_94 rfl (lv_at hl 0 rfl) ?_
          refine lv_bipush (v := 60) hx hb dX5_readZone_95 (by decide) ?_
          refine lv_aload_n hx hb dX5_readZone_97 rfl (lv_at hl 2 rfl) ?_
          refine lv_iconst (v := 0) hx hb dX5_readZone_98 (by decide) ?_
          refine lv_bipush (v := 59) hx hb dX5_readZone_99 (by decide) ?_
          have hPc := hP.sub (ws' := [(q, .inr (5, [.int th, .ref tx, .int (nI mz), .int fl, .int (bI it), .long al, .ref pt, .int (nI dg), .ref ot, .int (nI wr), .int (nI kz), .ref ka, .ref kd, .ref kp, .int (nI v_78.2.1), .int (bI v_78.2.2)])), (tx, .inl (c1, 256, .inl X))]) [0, 1] rfl
          have hDc := hD.sub (ws' := [(q, .inr (5, [.int th, .ref tx, .int (nI mz), .int fl, .int (bI it), .long al, .ref pt, .int (nI dg), .ref ot, .int (nI wr), .int (nI kz), .ref ka, .ref kd, .ref kp, .int (nI v_78.2.1), .int (bI v_78.2.2)])), (tx, .inl (c1, 256, .inl X))]) [0, 1] (by decide) rfl
          have hKc := hK.sub (tys' := [(c1, .int)]) [0] rfl
          have hFc := va_free (wc := [(q, .inr (5, [.int th, .ref tx, .int (nI mz), .int fl, .int (bI it), .long al, .ref pt, .int (nI dg), .ref ot, .int (nI wr), .int (nI kz), .ref ka, .ref kd, .ref kp, .int (nI v_78.2.1), .int (bI v_78.2.2)])), (tx, .inl (c1, 256, .inl X))]) hD hS hA [0, 1] rfl
          refine kc_calli (val := (mTwo X mz v_78.2.1 v_78.2.2 0 59).1) (wr := []) (w1 := [(q, .inr (5, [.int th, .ref tx, .int (nI mz), .int fl, .int (bI it), .long al, .ref pt, .int (nI dg), .ref ot, .int (nI wr), .int (nI kz), .ref ka, .ref kd, .ref kp, .int (nI (mTwo X mz v_78.2.1 v_78.2.2 0 59).2.1), .int (bI (mTwo X mz v_78.2.1 v_78.2.2 0 59).2.2)])), (tx, .inl (c1, 256, .inl X))]) (va_runV (As := [.int 0, .int 59]) (rest := [.int 60, .int (3600 * v_78.1)]) ⟨hx, hb, hml, hown, hts⟩ (m_two l dC dI st H.size q th tx mz fl it al pt dg ot wr kz ka kd kp v_78.2.1 v_78.2.2 c1 X 0 59 hz (by omega)) (cwV 2 hts (kwV kwm_243 kwm_244 kwm_245 kwm_203 kwm_242) rfl rfl rfl (by decide +kernel) ⟨Nat.le_of_ble_eq_true rfl, Nat.le_of_ble_eq_true rfl⟩) ⟨kc_blind, va_recv hKc hPc (ci := 5) (q0 := 0) rfl rfl, kc_pre hG hS hFc hKc hPc hDc⟩ rfl rfl hl.1 rfl (lv_room (Nat.le_of_ble_eq_true rfl)) dX5_readZone_101 ⟨Nat.le_of_ble_eq_true rfl, Nat.le_of_ble_eq_true rfl⟩) hP hD hS hFc [0, 1] [] rfl rfl (by decide) (by decide) (fun H locs hP hD hS => ?_)
          have hP : va_P (dC, dI) kcl [(q, .inr (5, [.int th, .ref tx, .int (nI mz), .int fl, .int (bI it), .long al, .ref pt, .int (nI dg), .ref ot, .int (nI wr), .int (nI kz), .ref ka, .ref kd, .ref kp, .int (nI (mTwo X mz v_78.2.1 v_78.2.2 0 59).2.1), .int (bI (mTwo X mz v_78.2.1 v_78.2.2 0 59).2.2)])), (tx, .inl (c1, 256, .inl X))] H := hP
          have hD : va_D A [(q, .inr (5, [.int th, .ref tx, .int (nI mz), .int fl, .int (bI it), .long al, .ref pt, .int (nI dg), .ref ot, .int (nI wr), .int (nI kz), .ref ka, .ref kd, .ref kp, .int (nI (mTwo X mz v_78.2.1 v_78.2.2 0 59).2.1), .int (bI (mTwo X mz v_78.2.1 v_78.2.2 0 59).2.2)])), (tx, .inl (c1, 256, .inl X))] := hD
          generalize e_101 : mTwo X mz v_78.2.1 v_78.2.2 0 59 = v_101 at hP hD ⊢
          have hP : va_P (dC, dI) kcl [(q, .inr (5, [.int th, .ref tx, .int (nI mz), .int fl, .int (bI it), .long al, .ref pt, .int (nI dg), .ref ot, .int (nI wr), .int (nI kz), .ref ka, .ref kd, .ref kp, .int (nI v_101.2.1), .int (bI v_101.2.2)])), (tx, .inl (c1, 256, .inl X))] H := hP
          have hD : va_D A [(q, .inr (5, [.int th, .ref tx, .int (nI mz), .int fl, .int (bI it), .long al, .ref pt, .int (nI dg), .ref ot, .int (nI wr), .int (nI kz), .ref ka, .ref kd, .ref kp, .int (nI v_101.2.1), .int (bI v_101.2.2)])), (tx, .inl (c1, 256, .inl X))] := hD
          have hv101 : v_101.2.1 ≤ v_78.2.1 + 2 := by rw [← e_101]; exact mTwo_at
          refine lv_imul hx hb dX5_readZone_104 ?_
          refine lv_iadd hx hb dX5_readZone_105 ?_
          refine lv_istore_n (lv' := [(3, .int ((3600 * v_78.1) + (60 * v_101.1))), (2, .int 0), (0, .ref q), (1, .int kind)]) hx hb dX5_readZone_106 rfl hl (by decide) rfl (fun ls hl => ?_)
          refine lv_iload_n hx hb dX5_readZone_107 rfl (lv_at hl 1 rfl) ?_
          refine lv_bipush (v := 43) hx hb dX5_readZone_108 (by decide) ?_
          refine lv_icmp_ne (tgt := 117) hx hb dX5_readZone_110 (by decide) (fun c_110 => ?_) (fun c_110 => ?_)
          · refine lv_iconst (v := 0) hx hb dX5_readZone_117 (by decide) ?_
            refine lv_iload_n hx hb dX5_readZone_118 rfl (lv_at hl 0 rfl) ?_
            refine lv_isub hx hb dX5_readZone_119 ?_
            have hF9 : mZone X mz ma wg kind = (0 - ((3600 * v_78.1) + (60 * v_101.1)), v_101.2.1, v_101.2.2) := by
              subst e_101
              subst e_78
              first | (simp only [mZone, if_pos c_8, if_neg c_48, if_pos c_84]; done) | rfl
            have hP9 : va_P (dC, dI) kcl [(q, .inr (5, [.int th, .ref tx, .int (nI mz), .int fl, .int (bI it), .long al, .ref pt, .int (nI dg), .ref ot, .int (nI wr), .int (nI kz), .ref ka, .ref kd, .ref kp, .int (nI (mZone X mz ma wg kind).2.1), .int (bI (mZone X mz ma wg kind).2.2)])), (tx, .inl (c1, 256, .inl X))] H := by
              try rw [hF9]
              exact hP.sub [0, 1] rfl
            have hD9 : va_D A [(q, .inr (5, [.int th, .ref tx, .int (nI mz), .int fl, .int (bI it), .long al, .ref pt, .int (nI dg), .ref ot, .int (nI wr), .int (nI kz), .ref ka, .ref kd, .ref kp, .int (nI (mZone X mz ma wg kind).2.1), .int (bI (mZone X mz ma wg kind).2.2)])), (tx, .inl (c1, 256, .inl X))] := by
              try rw [hF9]
              exact hD.sub [0, 1] (by decide) rfl
            have hv9 : 0 - ((3600 * v_78.1) + (60 * v_101.1)) = (mZone X mz ma wg kind).1 := by
              try rw [hF9]
              try rfl
            exact kc_iret hx hb hr hlocks hv9 hP9 hD9 hS dX5_readZone_120
          · exact absurd c_110 (by decide)
        · refine lv_aload_n hx hb dX5_readZone_87 rfl (lv_at hl 2 rfl) ?_
          have hPc := hP.sub (ws' := [(q, .inr (5, [.int th, .ref tx, .int (nI mz), .int fl, .int (bI it), .long al, .ref pt, .int (nI dg), .ref ot, .int (nI wr), .int (nI kz), .ref ka, .ref kd, .ref kp, .int (nI v_78.2.1), .int (bI v_78.2.2)])), (tx, .inl (c1, 256, .inl X))]) [0, 1] rfl
          have hDc := hD.sub (ws' := [(q, .inr (5, [.int th, .ref tx, .int (nI mz), .int fl, .int (bI it), .long al, .ref pt, .int (nI dg), .ref ot, .int (nI wr), .int (nI kz), .ref ka, .ref kd, .ref kp, .int (nI v_78.2.1), .int (bI v_78.2.2)])), (tx, .inl (c1, 256, .inl X))]) [0, 1] (by decide) rfl
          have hKc := hK.sub (tys' := [(c1, .int)]) [0] rfl
          have hFc := va_free (wc := [(q, .inr (5, [.int th, .ref tx, .int (nI mz), .int fl, .int (bI it), .long al, .ref pt, .int (nI dg), .ref ot, .int (nI wr), .int (nI kz), .ref ka, .ref kd, .ref kp, .int (nI v_78.2.1), .int (bI v_78.2.2)])), (tx, .inl (c1, 256, .inl X))]) hD hS hA [0, 1] rfl
          refine kc_callSi (val := bI (mDig X mz v_78.2.1)) (va_runV (As := []) (rest := []) ⟨hx, hb, hml, hown, hts⟩ (m_isDigit l dC dI st H.size q th tx mz fl it al pt dg ot wr kz ka kd kp v_78.2.1 v_78.2.2 c1 X hz (by omega)) (cwV 0 hts (kwV kwm_228 kwm_229 kwm_230 kwm_203 kwm_227) rfl rfl rfl (by decide +kernel) ⟨Nat.le_of_ble_eq_true rfl, Nat.le_of_ble_eq_true rfl⟩) ⟨kc_blind, va_recv hKc hPc (ci := 5) (q0 := 0) rfl rfl, kc_pre hG hS hFc hKc hPc hDc⟩ rfl rfl hl.1 rfl (lv_room (Nat.le_of_ble_eq_true rfl)) dX5_readZone_88 ⟨Nat.le_of_ble_eq_true rfl, Nat.le_of_ble_eq_true rfl⟩) ?_
          refine lv_if_eq (tgt := 107) hx hb dX5_readZone_91 (by decide) (fun c_91 => ?_) (fun c_91 => ?_)
          · refine lv_iload_n hx hb dX5_readZone_107 rfl (lv_at hl 1 rfl) ?_
            refine lv_bipush (v := 43) hx hb dX5_readZone_108 (by decide) ?_
            refine lv_icmp_ne (tgt := 117) hx hb dX5_readZone_110 (by decide) (fun c_110 => ?_) (fun c_110 => ?_)
            · refine lv_iconst (v := 0) hx hb dX5_readZone_117 (by decide) ?_
              refine lv_iload_n hx hb dX5_readZone_118 rfl (lv_at hl 0 rfl) ?_
              refine lv_isub hx hb dX5_readZone_119 ?_
              have hF9 : mZone X mz ma wg kind = (0 - (3600 * v_78.1), v_78.2.1, v_78.2.2) := by
                subst e_78
                first | (simp only [mZone, if_pos c_8, if_neg c_48, if_neg c_84, if_pos c_91]; done) | rfl
              have hP9 : va_P (dC, dI) kcl [(q, .inr (5, [.int th, .ref tx, .int (nI mz), .int fl, .int (bI it), .long al, .ref pt, .int (nI dg), .ref ot, .int (nI wr), .int (nI kz), .ref ka, .ref kd, .ref kp, .int (nI (mZone X mz ma wg kind).2.1), .int (bI (mZone X mz ma wg kind).2.2)])), (tx, .inl (c1, 256, .inl X))] H := by
                try rw [hF9]
                exact hP.sub [0, 1] rfl
              have hD9 : va_D A [(q, .inr (5, [.int th, .ref tx, .int (nI mz), .int fl, .int (bI it), .long al, .ref pt, .int (nI dg), .ref ot, .int (nI wr), .int (nI kz), .ref ka, .ref kd, .ref kp, .int (nI (mZone X mz ma wg kind).2.1), .int (bI (mZone X mz ma wg kind).2.2)])), (tx, .inl (c1, 256, .inl X))] := by
                try rw [hF9]
                exact hD.sub [0, 1] (by decide) rfl
              have hv9 : 0 - (3600 * v_78.1) = (mZone X mz ma wg kind).1 := by
                try rw [hF9]
                try rfl
              exact kc_iret hx hb hr hlocks hv9 hP9 hD9 hS dX5_readZone_120
            · exact absurd c_110 (by decide)
          · refine lv_iload_n hx hb dX5_readZone_94 rfl (lv_at hl 0 rfl) ?_
            refine lv_bipush (v := 60) hx hb dX5_readZone_95 (by decide) ?_
            refine lv_aload_n hx hb dX5_readZone_97 rfl (lv_at hl 2 rfl) ?_
            refine lv_iconst (v := 0) hx hb dX5_readZone_98 (by decide) ?_
            refine lv_bipush (v := 59) hx hb dX5_readZone_99 (by decide) ?_
            have hPc := hP.sub (ws' := [(q, .inr (5, [.int th, .ref tx, .int (nI mz), .int fl, .int (bI it), .long al, .ref pt, .int (nI dg), .ref ot, .int (nI wr), .int (nI kz), .ref ka, .ref kd, .ref kp, .int (nI v_78.2.1), .int (bI v_78.2.2)])), (tx, .inl (c1, 256, .inl X))]) [0, 1] rfl
            have hDc := hD.sub (ws' := [(q, .inr (5, [.int th, .ref tx, .int (nI mz), .int fl, .int (bI it), .long al, .ref pt, .int (nI dg), .ref ot, .int (nI wr), .int (nI kz), .ref ka, .ref kd, .ref kp, .int (nI v_78.2.1), .int (bI v_78.2.2)])), (tx, .inl (c1, 256, .inl X))]) [0, 1] (by decide) rfl
            have hKc := hK.sub (tys' := [(c1, .int)]) [0] rfl
            have hFc := va_free (wc := [(q, .inr (5, [.int th, .ref tx, .int (nI mz), .int fl, .int (bI it), .long al, .ref pt, .int (nI dg), .ref ot, .int (nI wr), .int (nI kz), .ref ka, .ref kd, .ref kp, .int (nI v_78.2.1), .int (bI v_78.2.2)])), (tx, .inl (c1, 256, .inl X))]) hD hS hA [0, 1] rfl
            refine kc_calli (val := (mTwo X mz v_78.2.1 v_78.2.2 0 59).1) (wr := []) (w1 := [(q, .inr (5, [.int th, .ref tx, .int (nI mz), .int fl, .int (bI it), .long al, .ref pt, .int (nI dg), .ref ot, .int (nI wr), .int (nI kz), .ref ka, .ref kd, .ref kp, .int (nI (mTwo X mz v_78.2.1 v_78.2.2 0 59).2.1), .int (bI (mTwo X mz v_78.2.1 v_78.2.2 0 59).2.2)])), (tx, .inl (c1, 256, .inl X))]) (va_runV (As := [.int 0, .int 59]) (rest := [.int 60, .int (3600 * v_78.1)]) ⟨hx, hb, hml, hown, hts⟩ (m_two l dC dI st H.size q th tx mz fl it al pt dg ot wr kz ka kd kp v_78.2.1 v_78.2.2 c1 X 0 59 hz (by omega)) (cwV 2 hts (kwV kwm_243 kwm_244 kwm_245 kwm_203 kwm_242) rfl rfl rfl (by decide +kernel) ⟨Nat.le_of_ble_eq_true rfl, Nat.le_of_ble_eq_true rfl⟩) ⟨kc_blind, va_recv hKc hPc (ci := 5) (q0 := 0) rfl rfl, kc_pre hG hS hFc hKc hPc hDc⟩ rfl rfl hl.1 rfl (lv_room (Nat.le_of_ble_eq_true rfl)) dX5_readZone_101 ⟨Nat.le_of_ble_eq_true rfl, Nat.le_of_ble_eq_true rfl⟩) hP hD hS hFc [0, 1] [] rfl rfl (by decide) (by decide) (fun H locs hP hD hS => ?_)
            have hP : va_P (dC, dI) kcl [(q, .inr (5, [.int th, .ref tx, .int (nI mz), .int fl, .int (bI it), .long al, .ref pt, .int (nI dg), .ref ot, .int (nI wr), .int (nI kz), .ref ka, .ref kd, .ref kp, .int (nI (mTwo X mz v_78.2.1 v_78.2.2 0 59).2.1), .int (bI (mTwo X mz v_78.2.1 v_78.2.2 0 59).2.2)])), (tx, .inl (c1, 256, .inl X))] H := hP
            have hD : va_D A [(q, .inr (5, [.int th, .ref tx, .int (nI mz), .int fl, .int (bI it), .long al, .ref pt, .int (nI dg), .ref ot, .int (nI wr), .int (nI kz), .ref ka, .ref kd, .ref kp, .int (nI (mTwo X mz v_78.2.1 v_78.2.2 0 59).2.1), .int (bI (mTwo X mz v_78.2.1 v_78.2.2 0 59).2.2)])), (tx, .inl (c1, 256, .inl X))] := hD
            generalize e_101 : mTwo X mz v_78.2.1 v_78.2.2 0 59 = v_101 at hP hD ⊢
            have hP : va_P (dC, dI) kcl [(q, .inr (5, [.int th, .ref tx, .int (nI mz), .int fl, .int (bI it), .long al, .ref pt, .int (nI dg), .ref ot, .int (nI wr), .int (nI kz), .ref ka, .ref kd, .ref kp, .int (nI v_101.2.1), .int (bI v_101.2.2)])), (tx, .inl (c1, 256, .inl X))] H := hP
            have hD : va_D A [(q, .inr (5, [.int th, .ref tx, .int (nI mz), .int fl, .int (bI it), .long al, .ref pt, .int (nI dg), .ref ot, .int (nI wr), .int (nI kz), .ref ka, .ref kd, .ref kp, .int (nI v_101.2.1), .int (bI v_101.2.2)])), (tx, .inl (c1, 256, .inl X))] := hD
            have hv101 : v_101.2.1 ≤ v_78.2.1 + 2 := by rw [← e_101]; exact mTwo_at
            refine lv_imul hx hb dX5_readZone_104 ?_
            refine lv_iadd hx hb dX5_readZone_105 ?_
            refine lv_istore_n (lv' := [(3, .int ((3600 * v_78.1) + (60 * v_101.1))), (2, .int 0), (0, .ref q), (1, .int kind)]) hx hb dX5_readZone_106 rfl hl (by decide) rfl (fun ls hl => ?_)
            refine lv_iload_n hx hb dX5_readZone_107 rfl (lv_at hl 1 rfl) ?_
            refine lv_bipush (v := 43) hx hb dX5_readZone_108 (by decide) ?_
            refine lv_icmp_ne (tgt := 117) hx hb dX5_readZone_110 (by decide) (fun c_110 => ?_) (fun c_110 => ?_)
            · refine lv_iconst (v := 0) hx hb dX5_readZone_117 (by decide) ?_
              refine lv_iload_n hx hb dX5_readZone_118 rfl (lv_at hl 0 rfl) ?_
              refine lv_isub hx hb dX5_readZone_119 ?_
              have hF9 : mZone X mz ma wg kind = (0 - ((3600 * v_78.1) + (60 * v_101.1)), v_101.2.1, v_101.2.2) := by
                subst e_101
                subst e_78
                first | (simp only [mZone, if_pos c_8, if_neg c_48, if_neg c_84, if_neg c_91]; done) | rfl
              have hP9 : va_P (dC, dI) kcl [(q, .inr (5, [.int th, .ref tx, .int (nI mz), .int fl, .int (bI it), .long al, .ref pt, .int (nI dg), .ref ot, .int (nI wr), .int (nI kz), .ref ka, .ref kd, .ref kp, .int (nI (mZone X mz ma wg kind).2.1), .int (bI (mZone X mz ma wg kind).2.2)])), (tx, .inl (c1, 256, .inl X))] H := by
                try rw [hF9]
                exact hP.sub [0, 1] rfl
              have hD9 : va_D A [(q, .inr (5, [.int th, .ref tx, .int (nI mz), .int fl, .int (bI it), .long al, .ref pt, .int (nI dg), .ref ot, .int (nI wr), .int (nI kz), .ref ka, .ref kd, .ref kp, .int (nI (mZone X mz ma wg kind).2.1), .int (bI (mZone X mz ma wg kind).2.2)])), (tx, .inl (c1, 256, .inl X))] := by
                try rw [hF9]
                exact hD.sub [0, 1] (by decide) rfl
              have hv9 : 0 - ((3600 * v_78.1) + (60 * v_101.1)) = (mZone X mz ma wg kind).1 := by
                try rw [hF9]
                try rfl
              exact kc_iret hx hb hr hlocks hv9 hP9 hD9 hS dX5_readZone_120
            · exact absurd c_110 (by decide)
      · refine lv_iload_n hx hb dX5_readZone_51 rfl (lv_at hl 0 rfl) ?_
        refine lv_bipush (v := 43) hx hb dX5_readZone_52 (by decide) ?_
        refine lv_icmp_eq (tgt := 67) hx hb dX5_readZone_54 (by decide) (fun c_54 => ?_) (fun c_54 => ?_)
        · exact absurd c_54 (by decide)
        · refine lv_iload_n hx hb dX5_readZone_57 rfl (lv_at hl 0 rfl) ?_
          refine lv_bipush (v := 45) hx hb dX5_readZone_58 (by decide) ?_
          refine lv_icmp_eq (tgt := 67) hx hb dX5_readZone_60 (by decide) (fun c_60 => ?_) (fun c_60 => ?_)
          · exact absurd c_60 (by decide)
          · refine lv_iconst (v := 1) hx hb dX5_readZone_63 (by decide) ?_
            refine lv_goto (tgt := 68) hx hb dX5_readZone_64 (by decide) ?_
            refine va_put (D := (dC, dI)) (ci := 5) (v := .int 1) (ty := .boolean) (C := RX5) (T := TX5) (N := 16) hx hb hts kin_5 tyX5 tyX5_ok nmX5 hown hK hP hD hS 0 rfl rfl 15 (by decide) (hts _ (kcm kwm_235)) (fun _ h9 => h9) rfl (by decide +kernel) rfl rfl (Nat.le_of_ble_eq_true rfl) dX5_readZone_68 (fun H locs hP hD hS => ?_)
            have hP : va_P (dC, dI) kcl [(q, .inr (5, [.int th, .ref tx, .int (nI mz), .int fl, .int (bI it), .long al, .ref pt, .int (nI dg), .ref ot, .int (nI wr), .int (nI kz), .ref ka, .ref kd, .ref kp, .int (nI (ma + 1)), .int (bI true)])), (tx, .inl (c1, 256, .inl X))] H := hP
            have hD : va_D A [(q, .inr (5, [.int th, .ref tx, .int (nI mz), .int fl, .int (bI it), .long al, .ref pt, .int (nI dg), .ref ot, .int (nI wr), .int (nI kz), .ref ka, .ref kd, .ref kp, .int (nI (ma + 1)), .int (bI true)])), (tx, .inl (c1, 256, .inl X))] := hD
            refine lv_sipush (v := 3600) hx hb dX5_readZone_71 (by decide) ?_
            refine lv_aload_n hx hb dX5_readZone_74 rfl (lv_at hl 1 rfl) ?_
            refine lv_iconst (v := 0) hx hb dX5_readZone_75 (by decide) ?_
            refine lv_bipush (v := 23) hx hb dX5_readZone_76 (by decide) ?_
            have hPc := hP.sub (ws' := [(q, .inr (5, [.int th, .ref tx, .int (nI mz), .int fl, .int (bI it), .long al, .ref pt, .int (nI dg), .ref ot, .int (nI wr), .int (nI kz), .ref ka, .ref kd, .ref kp, .int (nI (ma + 1)), .int (bI true)])), (tx, .inl (c1, 256, .inl X))]) [0, 1] rfl
            have hDc := hD.sub (ws' := [(q, .inr (5, [.int th, .ref tx, .int (nI mz), .int fl, .int (bI it), .long al, .ref pt, .int (nI dg), .ref ot, .int (nI wr), .int (nI kz), .ref ka, .ref kd, .ref kp, .int (nI (ma + 1)), .int (bI true)])), (tx, .inl (c1, 256, .inl X))]) [0, 1] (by decide) rfl
            have hKc := hK.sub (tys' := [(c1, .int)]) [0] rfl
            have hFc := va_free (wc := [(q, .inr (5, [.int th, .ref tx, .int (nI mz), .int fl, .int (bI it), .long al, .ref pt, .int (nI dg), .ref ot, .int (nI wr), .int (nI kz), .ref ka, .ref kd, .ref kp, .int (nI (ma + 1)), .int (bI true)])), (tx, .inl (c1, 256, .inl X))]) hD hS hA [0, 1] rfl
            refine kc_calli (val := (mTwo X mz (ma + 1) true 0 23).1) (wr := []) (w1 := [(q, .inr (5, [.int th, .ref tx, .int (nI mz), .int fl, .int (bI it), .long al, .ref pt, .int (nI dg), .ref ot, .int (nI wr), .int (nI kz), .ref ka, .ref kd, .ref kp, .int (nI (mTwo X mz (ma + 1) true 0 23).2.1), .int (bI (mTwo X mz (ma + 1) true 0 23).2.2)])), (tx, .inl (c1, 256, .inl X))]) (va_runV (As := [.int 0, .int 23]) (rest := [.int 3600]) ⟨hx, hb, hml, hown, hts⟩ (m_two l dC dI st H.size q th tx mz fl it al pt dg ot wr kz ka kd kp (ma + 1) true c1 X 0 23 hz (by omega)) (cwV 2 hts (kwV kwm_243 kwm_244 kwm_245 kwm_203 kwm_242) rfl rfl rfl (by decide +kernel) ⟨Nat.le_of_ble_eq_true rfl, Nat.le_of_ble_eq_true rfl⟩) ⟨kc_blind, va_recv hKc hPc (ci := 5) (q0 := 0) rfl rfl, kc_pre hG hS hFc hKc hPc hDc⟩ rfl rfl hl.1 rfl (lv_room (Nat.le_of_ble_eq_true rfl)) dX5_readZone_78 ⟨Nat.le_of_ble_eq_true rfl, Nat.le_of_ble_eq_true rfl⟩) hP hD hS hFc [0, 1] [] rfl rfl (by decide) (by decide) (fun H locs hP hD hS => ?_)
            have hP : va_P (dC, dI) kcl [(q, .inr (5, [.int th, .ref tx, .int (nI mz), .int fl, .int (bI it), .long al, .ref pt, .int (nI dg), .ref ot, .int (nI wr), .int (nI kz), .ref ka, .ref kd, .ref kp, .int (nI (mTwo X mz (ma + 1) true 0 23).2.1), .int (bI (mTwo X mz (ma + 1) true 0 23).2.2)])), (tx, .inl (c1, 256, .inl X))] H := hP
            have hD : va_D A [(q, .inr (5, [.int th, .ref tx, .int (nI mz), .int fl, .int (bI it), .long al, .ref pt, .int (nI dg), .ref ot, .int (nI wr), .int (nI kz), .ref ka, .ref kd, .ref kp, .int (nI (mTwo X mz (ma + 1) true 0 23).2.1), .int (bI (mTwo X mz (ma + 1) true 0 23).2.2)])), (tx, .inl (c1, 256, .inl X))] := hD
            generalize e_78 : mTwo X mz (ma + 1) true 0 23 = v_78 at hP hD ⊢
            have hP : va_P (dC, dI) kcl [(q, .inr (5, [.int th, .ref tx, .int (nI mz), .int fl, .int (bI it), .long al, .ref pt, .int (nI dg), .ref ot, .int (nI wr), .int (nI kz), .ref ka, .ref kd, .ref kp, .int (nI v_78.2.1), .int (bI v_78.2.2)])), (tx, .inl (c1, 256, .inl X))] H := hP
            have hD : va_D A [(q, .inr (5, [.int th, .ref tx, .int (nI mz), .int fl, .int (bI it), .long al, .ref pt, .int (nI dg), .ref ot, .int (nI wr), .int (nI kz), .ref ka, .ref kd, .ref kp, .int (nI v_78.2.1), .int (bI v_78.2.2)])), (tx, .inl (c1, 256, .inl X))] := hD
            have hv78 : v_78.2.1 ≤ (ma + 1) + 2 := by rw [← e_78]; exact mTwo_at
            refine lv_imul hx hb dX5_readZone_81 ?_
            refine lv_istore_n (lv' := [(3, .int (3600 * v_78.1)), (2, .int 0), (0, .ref q), (1, .int kind)]) hx hb dX5_readZone_82 rfl hl (by decide) rfl (fun ls hl => ?_)
            refine lv_iload_n hx hb dX5_readZone_83 rfl (lv_at hl 3 rfl) ?_
            refine lv_if_eq (tgt := 94) hx hb dX5_readZone_84 (by decide) (fun c_84 => ?_) (fun c_84 => ?_)
            · refine lv_iload_n hx hb dX5_readZone_94 rfl (lv_at hl 0 rfl) ?_
              refine lv_bipush (v := 60) hx hb dX5_readZone_95 (by decide) ?_
              refine lv_aload_n hx hb dX5_readZone_97 rfl (lv_at hl 2 rfl) ?_
              refine lv_iconst (v := 0) hx hb dX5_readZone_98 (by decide) ?_
              refine lv_bipush (v := 59) hx hb dX5_readZone_99 (by decide) ?_
              have hPc := hP.sub (ws' := [(q, .inr (5, [.int th, .ref tx, .int (nI mz), .int fl, .int (bI it), .long al, .ref pt, .int (nI dg), .ref ot, .int (nI wr), .int (nI kz), .ref ka, .ref kd, .ref kp, .int (nI v_78.2.1), .int (bI v_78.2.2)])), (tx, .inl (c1, 256, .inl X))]) [0, 1] rfl
              have hDc := hD.sub (ws' := [(q, .inr (5, [.int th, .ref tx, .int (nI mz), .int fl, .int (bI it), .long al, .ref pt, .int (nI dg), .ref ot, .int (nI wr), .int (nI kz), .ref ka, .ref kd, .ref kp, .int (nI v_78.2.1), .int (bI v_78.2.2)])), (tx, .inl (c1, 256, .inl X))]) [0, 1] (by decide) rfl
              have hKc := hK.sub (tys' := [(c1, .int)]) [0] rfl
              have hFc := va_free (wc := [(q, .inr (5, [.int th, .ref tx, .int (nI mz), .int fl, .int (bI it), .long al, .ref pt, .int (nI dg), .ref ot, .int (nI wr), .int (nI kz), .ref ka, .ref kd, .ref kp, .int (nI v_78.2.1), .int (bI v_78.2.2)])), (tx, .inl (c1, 256, .inl X))]) hD hS hA [0, 1] rfl
              refine kc_calli (val := (mTwo X mz v_78.2.1 v_78.2.2 0 59).1) (wr := []) (w1 := [(q, .inr (5, [.int th, .ref tx, .int (nI mz), .int fl, .int (bI it), .long al, .ref pt, .int (nI dg), .ref ot, .int (nI wr), .int (nI kz), .ref ka, .ref kd, .ref kp, .int (nI (mTwo X mz v_78.2.1 v_78.2.2 0 59).2.1), .int (bI (mTwo X mz v_78.2.1 v_78.2.2 0 59).2.2)])), (tx, .inl (c1, 256, .inl X))]) (va_runV (As := [.int 0, .int 59]) (rest := [.int 60, .int (3600 * v_78.1)]) ⟨hx, hb, hml, hown, hts⟩ (m_two l dC dI st H.size q th tx mz fl it al pt dg ot wr kz ka kd kp v_78.2.1 v_78.2.2 c1 X 0 59 hz (by omega)) (cwV 2 hts (kwV kwm_243 kwm_244 kwm_245 kwm_203 kwm_242) rfl rfl rfl (by decide +kernel) ⟨Nat.le_of_ble_eq_true rfl, Nat.le_of_ble_eq_true rfl⟩) ⟨kc_blind, va_recv hKc hPc (ci := 5) (q0 := 0) rfl rfl, kc_pre hG hS hFc hKc hPc hDc⟩ rfl rfl hl.1 rfl (lv_room (Nat.le_of_ble_eq_true rfl)) dX5_readZone_101 ⟨Nat.le_of_ble_eq_true rfl, Nat.le_of_ble_eq_true rfl⟩) hP hD hS hFc [0, 1] [] rfl rfl (by decide) (by decide) (fun H locs hP hD hS => ?_)
              have hP : va_P (dC, dI) kcl [(q, .inr (5, [.int th, .ref tx, .int (nI mz), .int fl, .int (bI it), .long al, .ref pt, .int (nI dg), .ref ot, .int (nI wr), .int (nI kz), .ref ka, .ref kd, .ref kp, .int (nI (mTwo X mz v_78.2.1 v_78.2.2 0 59).2.1), .int (bI (mTwo X mz v_78.2.1 v_78.2.2 0 59).2.2)])), (tx, .inl (c1, 256, .inl X))] H := hP
              have hD : va_D A [(q, .inr (5, [.int th, .ref tx, .int (nI mz), .int fl, .int (bI it), .long al, .ref pt, .int (nI dg), .ref ot, .int (nI wr), .int (nI kz), .ref ka, .ref kd, .ref kp, .int (nI (mTwo X mz v_78.2.1 v_78.2.2 0 59).2.1), .int (bI (mTwo X mz v_78.2.1 v_78.2.2 0 59).2.2)])), (tx, .inl (c1, 256, .inl X))] := hD
              generalize e_101 : mTwo X mz v_78.2.1 v_78.2.2 0 59 = v_101 at hP hD ⊢
              have hP : va_P (dC, dI) kcl [(q, .inr (5, [.int th, .ref tx, .int (nI mz), .int fl, .int (bI it), .long al, .ref pt, .int (nI dg), .ref ot, .int (nI wr), .int (nI kz), .ref ka, .ref kd, .ref kp, .int (nI v_101.2.1), .int (bI v_101.2.2)])), (tx, .inl (c1, 256, .inl X))] H := hP
              have hD : va_D A [(q, .inr (5, [.int th, .ref tx, .int (nI mz), .int fl, .int (bI it), .long al, .ref pt, .int (nI dg), .ref ot, .int (nI wr), .int (nI kz), .ref ka, .ref kd, .ref kp, .int (nI v_101.2.1), .int (bI v_101.2.2)])), (tx, .inl (c1, 256, .inl X))] := hD
              have hv101 : v_101.2.1 ≤ v_78.2.1 + 2 := by rw [← e_101]; exact mTwo_at
              refine lv_imul hx hb dX5_readZone_104 ?_
              refine lv_iadd hx hb dX5_readZone_105 ?_
              refine lv_istore_n (lv' := [(3, .int ((3600 * v_78.1) + (60 * v_101.1))), (2, .int 0), (0, .ref q), (1, .int kind)]) hx hb dX5_readZone_106 rfl hl (by decide) rfl (fun ls hl => ?_)
              refine lv_iload_n hx hb dX5_readZone_107 rfl (lv_at hl 1 rfl) ?_
              refine lv_bipush (v := 43) hx hb dX5_readZone_108 (by decide) ?_
              refine lv_icmp_ne (tgt := 117) hx hb dX5_readZone_110 (by decide) (fun c_110 => ?_) (fun c_110 => ?_)
              · refine lv_iconst (v := 0) hx hb dX5_readZone_117 (by decide) ?_
                refine lv_iload_n hx hb dX5_readZone_118 rfl (lv_at hl 0 rfl) ?_
                refine lv_isub hx hb dX5_readZone_119 ?_
                have hF9 : mZone X mz ma wg kind = (0 - ((3600 * v_78.1) + (60 * v_101.1)), v_101.2.1, v_101.2.2) := by
                  subst e_101
                  subst e_78
                  first | (simp only [mZone, if_pos c_8, if_pos c_48, if_pos c_84]; done) | rfl
                have hP9 : va_P (dC, dI) kcl [(q, .inr (5, [.int th, .ref tx, .int (nI mz), .int fl, .int (bI it), .long al, .ref pt, .int (nI dg), .ref ot, .int (nI wr), .int (nI kz), .ref ka, .ref kd, .ref kp, .int (nI (mZone X mz ma wg kind).2.1), .int (bI (mZone X mz ma wg kind).2.2)])), (tx, .inl (c1, 256, .inl X))] H := by
                  try rw [hF9]
                  exact hP.sub [0, 1] rfl
                have hD9 : va_D A [(q, .inr (5, [.int th, .ref tx, .int (nI mz), .int fl, .int (bI it), .long al, .ref pt, .int (nI dg), .ref ot, .int (nI wr), .int (nI kz), .ref ka, .ref kd, .ref kp, .int (nI (mZone X mz ma wg kind).2.1), .int (bI (mZone X mz ma wg kind).2.2)])), (tx, .inl (c1, 256, .inl X))] := by
                  try rw [hF9]
                  exact hD.sub [0, 1] (by decide) rfl
                have hv9 : 0 - ((3600 * v_78.1) + (60 * v_101.1)) = (mZone X mz ma wg kind).1 := by
                  try rw [hF9]
                  try rfl
                exact kc_iret hx hb hr hlocks hv9 hP9 hD9 hS dX5_readZone_120
              · exact absurd c_110 (by decide)
            · refine lv_aload_n hx hb dX5_readZone_87 rfl (lv_at hl 2 rfl) ?_
              have hPc := hP.sub (ws' := [(q, .inr (5, [.int th, .ref tx, .int (nI mz), .int fl, .int (bI it), .long al, .ref pt, .int (nI dg), .ref ot, .int (nI wr), .int (nI kz), .ref ka, .ref kd, .ref kp, .int (nI v_78.2.1), .int (bI v_78.2.2)])), (tx, .inl (c1, 256, .inl X))]) [0, 1] rfl
              have hDc := hD.sub (ws' := [(q, .inr (5, [.int th, .ref tx, .int (nI mz), .int fl, .int (bI it), .long al, .ref pt, .int (nI dg), .ref ot, .int (nI wr), .int (nI kz), .ref ka, .ref kd, .ref kp, .int (nI v_78.2.1), .int (bI v_78.2.2)])), (tx, .inl (c1, 256, .inl X))]) [0, 1] (by decide) rfl
              have hKc := hK.sub (tys' := [(c1, .int)]) [0] rfl
              have hFc := va_free (wc := [(q, .inr (5, [.int th, .ref tx, .int (nI mz), .int fl, .int (bI it), .long al, .ref pt, .int (nI dg), .ref ot, .int (nI wr), .int (nI kz), .ref ka, .ref kd, .ref kp, .int (nI v_78.2.1), .int (bI v_78.2.2)])), (tx, .inl (c1, 256, .inl X))]) hD hS hA [0, 1] rfl
              refine kc_callSi (val := bI (mDig X mz v_78.2.1)) (va_runV (As := []) (rest := []) ⟨hx, hb, hml, hown, hts⟩ (m_isDigit l dC dI st H.size q th tx mz fl it al pt dg ot wr kz ka kd kp v_78.2.1 v_78.2.2 c1 X hz (by omega)) (cwV 0 hts (kwV kwm_228 kwm_229 kwm_230 kwm_203 kwm_227) rfl rfl rfl (by decide +kernel) ⟨Nat.le_of_ble_eq_true rfl, Nat.le_of_ble_eq_true rfl⟩) ⟨kc_blind, va_recv hKc hPc (ci := 5) (q0 := 0) rfl rfl, kc_pre hG hS hFc hKc hPc hDc⟩ rfl rfl hl.1 rfl (lv_room (Nat.le_of_ble_eq_true rfl)) dX5_readZone_88 ⟨Nat.le_of_ble_eq_true rfl, Nat.le_of_ble_eq_true rfl⟩) ?_
              refine lv_if_eq (tgt := 107) hx hb dX5_readZone_91 (by decide) (fun c_91 => ?_) (fun c_91 => ?_)
              · refine lv_iload_n hx hb dX5_readZone_107 rfl (lv_at hl 1 rfl) ?_
                refine lv_bipush (v := 43) hx hb dX5_readZone_108 (by decide) ?_
                refine lv_icmp_ne (tgt := 117) hx hb dX5_readZone_110 (by decide) (fun c_110 => ?_) (fun c_110 => ?_)
                · refine lv_iconst (v := 0) hx hb dX5_readZone_117 (by decide) ?_
                  refine lv_iload_n hx hb dX5_readZone_118 rfl (lv_at hl 0 rfl) ?_
                  refine lv_isub hx hb dX5_readZone_119 ?_
                  have hF9 : mZone X mz ma wg kind = (0 - (3600 * v_78.1), v_78.2.1, v_78.2.2) := by
                    subst e_78
                    first | (simp only [mZone, if_pos c_8, if_pos c_48, if_neg c_84, if_pos c_91]; done) | rfl
                  have hP9 : va_P (dC, dI) kcl [(q, .inr (5, [.int th, .ref tx, .int (nI mz), .int fl, .int (bI it), .long al, .ref pt, .int (nI dg), .ref ot, .int (nI wr), .int (nI kz), .ref ka, .ref kd, .ref kp, .int (nI (mZone X mz ma wg kind).2.1), .int (bI (mZone X mz ma wg kind).2.2)])), (tx, .inl (c1, 256, .inl X))] H := by
                    try rw [hF9]
                    exact hP.sub [0, 1] rfl
                  have hD9 : va_D A [(q, .inr (5, [.int th, .ref tx, .int (nI mz), .int fl, .int (bI it), .long al, .ref pt, .int (nI dg), .ref ot, .int (nI wr), .int (nI kz), .ref ka, .ref kd, .ref kp, .int (nI (mZone X mz ma wg kind).2.1), .int (bI (mZone X mz ma wg kind).2.2)])), (tx, .inl (c1, 256, .inl X))] := by
                    try rw [hF9]
                    exact hD.sub [0, 1] (by decide) rfl
                  have hv9 : 0 - (3600 * v_78.1) = (mZone X mz ma wg kind).1 := by
                    try rw [hF9]
                    try rfl
                  exact kc_iret hx hb hr hlocks hv9 hP9 hD9 hS dX5_readZone_120
                · exact absurd c_110 (by decide)
              · refine lv_iload_n hx hb dX5_readZone_94 rfl (lv_at hl 0 rfl) ?_
                refine lv_bipush (v := 60) hx hb dX5_readZone_95 (by decide) ?_
                refine lv_aload_n hx hb dX5_readZone_97 rfl (lv_at hl 2 rfl) ?_
                refine lv_iconst (v := 0) hx hb dX5_readZone_98 (by decide) ?_
                refine lv_bipush (v := 59) hx hb dX5_readZone_99 (by decide) ?_
                have hPc := hP.sub (ws' := [(q, .inr (5, [.int th, .ref tx, .int (nI mz), .int fl, .int (bI it), .long al, .ref pt, .int (nI dg), .ref ot, .int (nI wr), .int (nI kz), .ref ka, .ref kd, .ref kp, .int (nI v_78.2.1), .int (bI v_78.2.2)])), (tx, .inl (c1, 256, .inl X))]) [0, 1] rfl
                have hDc := hD.sub (ws' := [(q, .inr (5, [.int th, .ref tx, .int (nI mz), .int fl, .int (bI it), .long al, .ref pt, .int (nI dg), .ref ot, .int (nI wr), .int (nI kz), .ref ka, .ref kd, .ref kp, .int (nI v_78.2.1), .int (bI v_78.2.2)])), (tx, .inl (c1, 256, .inl X))]) [0, 1] (by decide) rfl
                have hKc := hK.sub (tys' := [(c1, .int)]) [0] rfl
                have hFc := va_free (wc := [(q, .inr (5, [.int th, .ref tx, .int (nI mz), .int fl, .int (bI it), .long al, .ref pt, .int (nI dg), .ref ot, .int (nI wr), .int (nI kz), .ref ka, .ref kd, .ref kp, .int (nI v_78.2.1), .int (bI v_78.2.2)])), (tx, .inl (c1, 256, .inl X))]) hD hS hA [0, 1] rfl
                refine kc_calli (val := (mTwo X mz v_78.2.1 v_78.2.2 0 59).1) (wr := []) (w1 := [(q, .inr (5, [.int th, .ref tx, .int (nI mz), .int fl, .int (bI it), .long al, .ref pt, .int (nI dg), .ref ot, .int (nI wr), .int (nI kz), .ref ka, .ref kd, .ref kp, .int (nI (mTwo X mz v_78.2.1 v_78.2.2 0 59).2.1), .int (bI (mTwo X mz v_78.2.1 v_78.2.2 0 59).2.2)])), (tx, .inl (c1, 256, .inl X))]) (va_runV (As := [.int 0, .int 59]) (rest := [.int 60, .int (3600 * v_78.1)]) ⟨hx, hb, hml, hown, hts⟩ (m_two l dC dI st H.size q th tx mz fl it al pt dg ot wr kz ka kd kp v_78.2.1 v_78.2.2 c1 X 0 59 hz (by omega)) (cwV 2 hts (kwV kwm_243 kwm_244 kwm_245 kwm_203 kwm_242) rfl rfl rfl (by decide +kernel) ⟨Nat.le_of_ble_eq_true rfl, Nat.le_of_ble_eq_true rfl⟩) ⟨kc_blind, va_recv hKc hPc (ci := 5) (q0 := 0) rfl rfl, kc_pre hG hS hFc hKc hPc hDc⟩ rfl rfl hl.1 rfl (lv_room (Nat.le_of_ble_eq_true rfl)) dX5_readZone_101 ⟨Nat.le_of_ble_eq_true rfl, Nat.le_of_ble_eq_true rfl⟩) hP hD hS hFc [0, 1] [] rfl rfl (by decide) (by decide) (fun H locs hP hD hS => ?_)
                have hP : va_P (dC, dI) kcl [(q, .inr (5, [.int th, .ref tx, .int (nI mz), .int fl, .int (bI it), .long al, .ref pt, .int (nI dg), .ref ot, .int (nI wr), .int (nI kz), .ref ka, .ref kd, .ref kp, .int (nI (mTwo X mz v_78.2.1 v_78.2.2 0 59).2.1), .int (bI (mTwo X mz v_78.2.1 v_78.2.2 0 59).2.2)])), (tx, .inl (c1, 256, .inl X))] H := hP
                have hD : va_D A [(q, .inr (5, [.int th, .ref tx, .int (nI mz), .int fl, .int (bI it), .long al, .ref pt, .int (nI dg), .ref ot, .int (nI wr), .int (nI kz), .ref ka, .ref kd, .ref kp, .int (nI (mTwo X mz v_78.2.1 v_78.2.2 0 59).2.1), .int (bI (mTwo X mz v_78.2.1 v_78.2.2 0 59).2.2)])), (tx, .inl (c1, 256, .inl X))] := hD
                generalize e_101 : mTwo X mz v_78.2.1 v_78.2.2 0 59 = v_101 at hP hD ⊢
                have hP : va_P (dC, dI) kcl [(q, .inr (5, [.int th, .ref tx, .int (nI mz), .int fl, .int (bI it), .long al, .ref pt, .int (nI dg), .ref ot, .int (nI wr), .int (nI kz), .ref ka, .ref kd, .ref kp, .int (nI v_101.2.1), .int (bI v_101.2.2)])), (tx, .inl (c1, 256, .inl X))] H := hP
                have hD : va_D A [(q, .inr (5, [.int th, .ref tx, .int (nI mz), .int fl, .int (bI it), .long al, .ref pt, .int (nI dg), .ref ot, .int (nI wr), .int (nI kz), .ref ka, .ref kd, .ref kp, .int (nI v_101.2.1), .int (bI v_101.2.2)])), (tx, .inl (c1, 256, .inl X))] := hD
                have hv101 : v_101.2.1 ≤ v_78.2.1 + 2 := by rw [← e_101]; exact mTwo_at
                refine lv_imul hx hb dX5_readZone_104 ?_
                refine lv_iadd hx hb dX5_readZone_105 ?_
                refine lv_istore_n (lv' := [(3, .int ((3600 * v_78.1) + (60 * v_101.1))), (2, .int 0), (0, .ref q), (1, .int kind)]) hx hb dX5_readZone_106 rfl hl (by decide) rfl (fun ls hl => ?_)
                refine lv_iload_n hx hb dX5_readZone_107 rfl (lv_at hl 1 rfl) ?_
                refine lv_bipush (v := 43) hx hb dX5_readZone_108 (by decide) ?_
                refine lv_icmp_ne (tgt := 117) hx hb dX5_readZone_110 (by decide) (fun c_110 => ?_) (fun c_110 => ?_)
                · refine lv_iconst (v := 0) hx hb dX5_readZone_117 (by decide) ?_
                  refine lv_iload_n hx hb dX5_readZone_118 rfl (lv_at hl 0 rfl) ?_
                  refine lv_isub hx hb dX5_readZone_119 ?_
                  have hF9 : mZone X mz ma wg kind = (0 - ((3600 * v_78.1) + (60 * v_101.1)), v_101.2.1, v_101.2.2) := by
                    subst e_101
                    subst e_78
                    first | (simp only [mZone, if_pos c_8, if_pos c_48, if_neg c_84, if_neg c_91]; done) | rfl
                  have hP9 : va_P (dC, dI) kcl [(q, .inr (5, [.int th, .ref tx, .int (nI mz), .int fl, .int (bI it), .long al, .ref pt, .int (nI dg), .ref ot, .int (nI wr), .int (nI kz), .ref ka, .ref kd, .ref kp, .int (nI (mZone X mz ma wg kind).2.1), .int (bI (mZone X mz ma wg kind).2.2)])), (tx, .inl (c1, 256, .inl X))] H := by
                    try rw [hF9]
                    exact hP.sub [0, 1] rfl
                  have hD9 : va_D A [(q, .inr (5, [.int th, .ref tx, .int (nI mz), .int fl, .int (bI it), .long al, .ref pt, .int (nI dg), .ref ot, .int (nI wr), .int (nI kz), .ref ka, .ref kd, .ref kp, .int (nI (mZone X mz ma wg kind).2.1), .int (bI (mZone X mz ma wg kind).2.2)])), (tx, .inl (c1, 256, .inl X))] := by
                    try rw [hF9]
                    exact hD.sub [0, 1] (by decide) rfl
                  have hv9 : 0 - ((3600 * v_78.1) + (60 * v_101.1)) = (mZone X mz ma wg kind).1 := by
                    try rw [hF9]
                    try rfl
                  exact kc_iret hx hb hr hlocks hv9 hP9 hD9 hS dX5_readZone_120
                · exact absurd c_110 (by decide)
    · exact absurd c_38 (by decide)
  · refine lv_aload_n hx hb dX5_readZone_11 rfl (lv_at hl 0 rfl) ?_
    refine va_get (D := (dC, dI)) (ci := 5) (v := .ref tx) (C := RX5) (T := TX5) (N := 16) hx hb hts kin_5 hown hK hP 0 rfl rfl 1 (by decide) (hts _ (kcm kwm_205)) (fun _ h9 => h9) rfl dX5_readZone_12 ?_
    refine lv_aload_n hx hb dX5_readZone_15 rfl (lv_at hl 0 rfl) ?_
    refine va_get (D := (dC, dI)) (ci := 5) (v := .int (nI ma)) (C := RX5) (T := TX5) (N := 16) hx hb hts kin_5 hown hK hP 0 rfl rfl 14 (by decide) (hts _ (kcm kwm_226)) (fun _ h9 => h9) rfl dX5_readZone_16 ?_
    refine va_iald hx hb hK hP 1 0 rfl rfl (vp_in_nI (Nat.lt_of_lt_of_le (kb_lt c_8 (by omega)) (by omega)) (by decide)) dX5_readZone_19 ?_
    rw [show (nI ma).toNatClampNeg = ma from nI_clamp (by omega)]
    refine lv_goto (tgt := 24) hx hb dX5_readZone_20 (by decide) ?_
    refine lv_istore_n (lv' := [(2, .int (X ma)), (0, .ref q), (1, .int kind)]) hx hb dX5_readZone_24 rfl hl (by decide) rfl (fun ls hl => ?_)
    refine lv_aload_n hx hb dX5_readZone_25 rfl (lv_at hl 1 rfl) ?_
    refine lv_dup hx hb dX5_readZone_26 rfl ?_
    refine va_get (D := (dC, dI)) (ci := 5) (v := .int (nI ma)) (C := RX5) (T := TX5) (N := 16) hx hb hts kin_5 hown hK hP 0 rfl rfl 14 (by decide) (hts _ (kcm kwm_226)) (fun _ h9 => h9) rfl dX5_readZone_27 ?_
    refine lv_iconst (v := 1) hx hb dX5_readZone_30 (by decide) ?_
    refine lv_iadd hx hb dX5_readZone_31 ?_
    rw [show (nI ma) + 1 = nI (ma + 1) from nI_add ma 1]
    refine va_put (D := (dC, dI)) (ci := 5) (v := .int (nI (ma + 1))) (ty := .int) (C := RX5) (T := TX5) (N := 16) hx hb hts kin_5 tyX5 tyX5_ok nmX5 hown hK hP hD hS 0 rfl rfl 14 (by decide) (hts _ (kcm kwm_226)) (fun _ h9 => h9) rfl (by decide +kernel) rfl rfl (Nat.le_of_ble_eq_true rfl) dX5_readZone_32 (fun H locs hP hD hS => ?_)
    have hP : va_P (dC, dI) kcl [(q, .inr (5, [.int th, .ref tx, .int (nI mz), .int fl, .int (bI it), .long al, .ref pt, .int (nI dg), .ref ot, .int (nI wr), .int (nI kz), .ref ka, .ref kd, .ref kp, .int (nI (ma + 1)), .int (bI wg)])), (tx, .inl (c1, 256, .inl X))] H := hP
    have hD : va_D A [(q, .inr (5, [.int th, .ref tx, .int (nI mz), .int fl, .int (bI it), .long al, .ref pt, .int (nI dg), .ref ot, .int (nI wr), .int (nI kz), .ref ka, .ref kd, .ref kp, .int (nI (ma + 1)), .int (bI wg)])), (tx, .inl (c1, 256, .inl X))] := hD
    refine lv_iload_n hx hb dX5_readZone_35 rfl (lv_at hl 0 rfl) ?_
    refine lv_bipush (v := 90) hx hb dX5_readZone_36 (by decide) ?_
    refine lv_icmp_ne (tgt := 43) hx hb dX5_readZone_38 (by decide) (fun c_38 => ?_) (fun c_38 => ?_)
    · refine lv_aload_n hx hb dX5_readZone_43 rfl (lv_at hl 1 rfl) ?_
      refine lv_aload_n hx hb dX5_readZone_44 rfl (lv_at hl 1 rfl) ?_
      refine va_get (D := (dC, dI)) (ci := 5) (v := .int (bI wg)) (C := RX5) (T := TX5) (N := 16) hx hb hts kin_5 hown hK hP 0 rfl rfl 15 (by decide) (hts _ (kcm kwm_235)) (fun _ h9 => h9) rfl dX5_readZone_45 ?_
      refine lv_if_ne (tgt := 63) hx hb dX5_readZone_48 (by decide) (fun c_48 => ?_) (fun c_48 => ?_)
      · refine lv_iconst (v := 1) hx hb dX5_readZone_63 (by decide) ?_
        refine lv_goto (tgt := 68) hx hb dX5_readZone_64 (by decide) ?_
        refine va_put (D := (dC, dI)) (ci := 5) (v := .int 1) (ty := .boolean) (C := RX5) (T := TX5) (N := 16) hx hb hts kin_5 tyX5 tyX5_ok nmX5 hown hK hP hD hS 0 rfl rfl 15 (by decide) (hts _ (kcm kwm_235)) (fun _ h9 => h9) rfl (by decide +kernel) rfl rfl (Nat.le_of_ble_eq_true rfl) dX5_readZone_68 (fun H locs hP hD hS => ?_)
        have hP : va_P (dC, dI) kcl [(q, .inr (5, [.int th, .ref tx, .int (nI mz), .int fl, .int (bI it), .long al, .ref pt, .int (nI dg), .ref ot, .int (nI wr), .int (nI kz), .ref ka, .ref kd, .ref kp, .int (nI (ma + 1)), .int (bI true)])), (tx, .inl (c1, 256, .inl X))] H := hP
        have hD : va_D A [(q, .inr (5, [.int th, .ref tx, .int (nI mz), .int fl, .int (bI it), .long al, .ref pt, .int (nI dg), .ref ot, .int (nI wr), .int (nI kz), .ref ka, .ref kd, .ref kp, .int (nI (ma + 1)), .int (bI true)])), (tx, .inl (c1, 256, .inl X))] := hD
        refine lv_sipush (v := 3600) hx hb dX5_readZone_71 (by decide) ?_
        refine lv_aload_n hx hb dX5_readZone_74 rfl (lv_at hl 1 rfl) ?_
        refine lv_iconst (v := 0) hx hb dX5_readZone_75 (by decide) ?_
        refine lv_bipush (v := 23) hx hb dX5_readZone_76 (by decide) ?_
        have hPc := hP.sub (ws' := [(q, .inr (5, [.int th, .ref tx, .int (nI mz), .int fl, .int (bI it), .long al, .ref pt, .int (nI dg), .ref ot, .int (nI wr), .int (nI kz), .ref ka, .ref kd, .ref kp, .int (nI (ma + 1)), .int (bI true)])), (tx, .inl (c1, 256, .inl X))]) [0, 1] rfl
        have hDc := hD.sub (ws' := [(q, .inr (5, [.int th, .ref tx, .int (nI mz), .int fl, .int (bI it), .long al, .ref pt, .int (nI dg), .ref ot, .int (nI wr), .int (nI kz), .ref ka, .ref kd, .ref kp, .int (nI (ma + 1)), .int (bI true)])), (tx, .inl (c1, 256, .inl X))]) [0, 1] (by decide) rfl
        have hKc := hK.sub (tys' := [(c1, .int)]) [0] rfl
        have hFc := va_free (wc := [(q, .inr (5, [.int th, .ref tx, .int (nI mz), .int fl, .int (bI it), .long al, .ref pt, .int (nI dg), .ref ot, .int (nI wr), .int (nI kz), .ref ka, .ref kd, .ref kp, .int (nI (ma + 1)), .int (bI true)])), (tx, .inl (c1, 256, .inl X))]) hD hS hA [0, 1] rfl
        refine kc_calli (val := (mTwo X mz (ma + 1) true 0 23).1) (wr := []) (w1 := [(q, .inr (5, [.int th, .ref tx, .int (nI mz), .int fl, .int (bI it), .long al, .ref pt, .int (nI dg), .ref ot, .int (nI wr), .int (nI kz), .ref ka, .ref kd, .ref kp, .int (nI (mTwo X mz (ma + 1) true 0 23).2.1), .int (bI (mTwo X mz (ma + 1) true 0 23).2.2)])), (tx, .inl (c1, 256, .inl X))]) (va_runV (As := [.int 0, .int 23]) (rest := [.int 3600]) ⟨hx, hb, hml, hown, hts⟩ (m_two l dC dI st H.size q th tx mz fl it al pt dg ot wr kz ka kd kp (ma + 1) true c1 X 0 23 hz (by omega)) (cwV 2 hts (kwV kwm_243 kwm_244 kwm_245 kwm_203 kwm_242) rfl rfl rfl (by decide +kernel) ⟨Nat.le_of_ble_eq_true rfl, Nat.le_of_ble_eq_true rfl⟩) ⟨kc_blind, va_recv hKc hPc (ci := 5) (q0 := 0) rfl rfl, kc_pre hG hS hFc hKc hPc hDc⟩ rfl rfl hl.1 rfl (lv_room (Nat.le_of_ble_eq_true rfl)) dX5_readZone_78 ⟨Nat.le_of_ble_eq_true rfl, Nat.le_of_ble_eq_true rfl⟩) hP hD hS hFc [0, 1] [] rfl rfl (by decide) (by decide) (fun H locs hP hD hS => ?_)
        have hP : va_P (dC, dI) kcl [(q, .inr (5, [.int th, .ref tx, .int (nI mz), .int fl, .int (bI it), .long al, .ref pt, .int (nI dg), .ref ot, .int (nI wr), .int (nI kz), .ref ka, .ref kd, .ref kp, .int (nI (mTwo X mz (ma + 1) true 0 23).2.1), .int (bI (mTwo X mz (ma + 1) true 0 23).2.2)])), (tx, .inl (c1, 256, .inl X))] H := hP
        have hD : va_D A [(q, .inr (5, [.int th, .ref tx, .int (nI mz), .int fl, .int (bI it), .long al, .ref pt, .int (nI dg), .ref ot, .int (nI wr), .int (nI kz), .ref ka, .ref kd, .ref kp, .int (nI (mTwo X mz (ma + 1) true 0 23).2.1), .int (bI (mTwo X mz (ma + 1) true 0 23).2.2)])), (tx, .inl (c1, 256, .inl X))] := hD
        generalize e_78 : mTwo X mz (ma + 1) true 0 23 = v_78 at hP hD ⊢
        have hP : va_P (dC, dI) kcl [(q, .inr (5, [.int th, .ref tx, .int (nI mz), .int fl, .int (bI it), .long al, .ref pt, .int (nI dg), .ref ot, .int (nI wr), .int (nI kz), .ref ka, .ref kd, .ref kp, .int (nI v_78.2.1), .int (bI v_78.2.2)])), (tx, .inl (c1, 256, .inl X))] H := hP
        have hD : va_D A [(q, .inr (5, [.int th, .ref tx, .int (nI mz), .int fl, .int (bI it), .long al, .ref pt, .int (nI dg), .ref ot, .int (nI wr), .int (nI kz), .ref ka, .ref kd, .ref kp, .int (nI v_78.2.1), .int (bI v_78.2.2)])), (tx, .inl (c1, 256, .inl X))] := hD
        have hv78 : v_78.2.1 ≤ (ma + 1) + 2 := by rw [← e_78]; exact mTwo_at
        refine lv_imul hx hb dX5_readZone_81 ?_
        refine lv_istore_n (lv' := [(3, .int (3600 * v_78.1)), (2, .int (X ma)), (0, .ref q), (1, .int kind)]) hx hb dX5_readZone_82 rfl hl (by decide) rfl (fun ls hl => ?_)
        refine lv_iload_n hx hb dX5_readZone_83 rfl (lv_at hl 3 rfl) ?_
        refine lv_if_eq (tgt := 94) hx hb dX5_readZone_84 (by decide) (fun c_84 => ?_) (fun c_84 => ?_)
        · refine lv_iload_n hx hb dX5_readZone_94 rfl (lv_at hl 0 rfl) ?_
          refine lv_bipush (v := 60) hx hb dX5_readZone_95 (by decide) ?_
          refine lv_aload_n hx hb dX5_readZone_97 rfl (lv_at hl 2 rfl) ?_
          refine lv_iconst (v := 0) hx hb dX5_readZone_98 (by decide) ?_
          refine lv_bipush (v := 59) hx hb dX5_readZone_99 (by decide) ?_
          have hPc := hP.sub (ws' := [(q, .inr (5, [.int th, .ref tx, .int (nI mz), .int fl, .int (bI it), .long al, .ref pt, .int (nI dg), .ref ot, .int (nI wr), .int (nI kz), .ref ka, .ref kd, .ref kp, .int (nI v_78.2.1), .int (bI v_78.2.2)])), (tx, .inl (c1, 256, .inl X))]) [0, 1] rfl
          have hDc := hD.sub (ws' := [(q, .inr (5, [.int th, .ref tx, .int (nI mz), .int fl, .int (bI it), .long al, .ref pt, .int (nI dg), .ref ot, .int (nI wr), .int (nI kz), .ref ka, .ref kd, .ref kp, .int (nI v_78.2.1), .int (bI v_78.2.2)])), (tx, .inl (c1, 256, .inl X))]) [0, 1] (by decide) rfl
          have hKc := hK.sub (tys' := [(c1, .int)]) [0] rfl
          have hFc := va_free (wc := [(q, .inr (5, [.int th, .ref tx, .int (nI mz), .int fl, .int (bI it), .long al, .ref pt, .int (nI dg), .ref ot, .int (nI wr), .int (nI kz), .ref ka, .ref kd, .ref kp, .int (nI v_78.2.1), .int (bI v_78.2.2)])), (tx, .inl (c1, 256, .inl X))]) hD hS hA [0, 1] rfl
          refine kc_calli (val := (mTwo X mz v_78.2.1 v_78.2.2 0 59).1) (wr := []) (w1 := [(q, .inr (5, [.int th, .ref tx, .int (nI mz), .int fl, .int (bI it), .long al, .ref pt, .int (nI dg), .ref ot, .int (nI wr), .int (nI kz), .ref ka, .ref kd, .ref kp, .int (nI (mTwo X mz v_78.2.1 v_78.2.2 0 59).2.1), .int (bI (mTwo X mz v_78.2.1 v_78.2.2 0 59).2.2)])), (tx, .inl (c1, 256, .inl X))]) (va_runV (As := [.int 0, .int 59]) (rest := [.int 60, .int (3600 * v_78.1)]) ⟨hx, hb, hml, hown, hts⟩ (m_two l dC dI st H.size q th tx mz fl it al pt dg ot wr kz ka kd kp v_78.2.1 v_78.2.2 c1 X 0 59 hz (by omega)) (cwV 2 hts (kwV kwm_243 kwm_244 kwm_245 kwm_203 kwm_242) rfl rfl rfl (by decide +kernel) ⟨Nat.le_of_ble_eq_true rfl, Nat.le_of_ble_eq_true rfl⟩) ⟨kc_blind, va_recv hKc hPc (ci := 5) (q0 := 0) rfl rfl, kc_pre hG hS hFc hKc hPc hDc⟩ rfl rfl hl.1 rfl (lv_room (Nat.le_of_ble_eq_true rfl)) dX5_readZone_101 ⟨Nat.le_of_ble_eq_true rfl, Nat.le_of_ble_eq_true rfl⟩) hP hD hS hFc [0, 1] [] rfl rfl (by decide) (by decide) (fun H locs hP hD hS => ?_)
          have hP : va_P (dC, dI) kcl [(q, .inr (5, [.int th, .ref tx, .int (nI mz), .int fl, .int (bI it), .long al, .ref pt, .int (nI dg), .ref ot, .int (nI wr), .int (nI kz), .ref ka, .ref kd, .ref kp, .int (nI (mTwo X mz v_78.2.1 v_78.2.2 0 59).2.1), .int (bI (mTwo X mz v_78.2.1 v_78.2.2 0 59).2.2)])), (tx, .inl (c1, 256, .inl X))] H := hP
          have hD : va_D A [(q, .inr (5, [.int th, .ref tx, .int (nI mz), .int fl, .int (bI it), .long al, .ref pt, .int (nI dg), .ref ot, .int (nI wr), .int (nI kz), .ref ka, .ref kd, .ref kp, .int (nI (mTwo X mz v_78.2.1 v_78.2.2 0 59).2.1), .int (bI (mTwo X mz v_78.2.1 v_78.2.2 0 59).2.2)])), (tx, .inl (c1, 256, .inl X))] := hD
          generalize e_101 : mTwo X mz v_78.2.1 v_78.2.2 0 59 = v_101 at hP hD ⊢
          have hP : va_P (dC, dI) kcl [(q, .inr (5, [.int th, .ref tx, .int (nI mz), .int fl, .int (bI it), .long al, .ref pt, .int (nI dg), .ref ot, .int (nI wr), .int (nI kz), .ref ka, .ref kd, .ref kp, .int (nI v_101.2.1), .int (bI v_101.2.2)])), (tx, .inl (c1, 256, .inl X))] H := hP
          have hD : va_D A [(q, .inr (5, [.int th, .ref tx, .int (nI mz), .int fl, .int (bI it), .long al, .ref pt, .int (nI dg), .ref ot, .int (nI wr), .int (nI kz), .ref ka, .ref kd, .ref kp, .int (nI v_101.2.1), .int (bI v_101.2.2)])), (tx, .inl (c1, 256, .inl X))] := hD
          have hv101 : v_101.2.1 ≤ v_78.2.1 + 2 := by rw [← e_101]; exact mTwo_at
          refine lv_imul hx hb dX5_readZone_104 ?_
          refine lv_iadd hx hb dX5_readZone_105 ?_
          refine lv_istore_n (lv' := [(3, .int ((3600 * v_78.1) + (60 * v_101.1))), (2, .int (X ma)), (0, .ref q), (1, .int kind)]) hx hb dX5_readZone_106 rfl hl (by decide) rfl (fun ls hl => ?_)
          refine lv_iload_n hx hb dX5_readZone_107 rfl (lv_at hl 1 rfl) ?_
          refine lv_bipush (v := 43) hx hb dX5_readZone_108 (by decide) ?_
          refine lv_icmp_ne (tgt := 117) hx hb dX5_readZone_110 (by decide) (fun c_110 => ?_) (fun c_110 => ?_)
          · refine lv_iconst (v := 0) hx hb dX5_readZone_117 (by decide) ?_
            refine lv_iload_n hx hb dX5_readZone_118 rfl (lv_at hl 0 rfl) ?_
            refine lv_isub hx hb dX5_readZone_119 ?_
            have hF9 : mZone X mz ma wg kind = (0 - ((3600 * v_78.1) + (60 * v_101.1)), v_101.2.1, v_101.2.2) := by
              subst e_101
              subst e_78
              first | (simp only [mZone, if_neg c_8, if_neg c_38, if_neg c_48, if_pos c_84, if_neg c_110]; done) | rfl
            have hP9 : va_P (dC, dI) kcl [(q, .inr (5, [.int th, .ref tx, .int (nI mz), .int fl, .int (bI it), .long al, .ref pt, .int (nI dg), .ref ot, .int (nI wr), .int (nI kz), .ref ka, .ref kd, .ref kp, .int (nI (mZone X mz ma wg kind).2.1), .int (bI (mZone X mz ma wg kind).2.2)])), (tx, .inl (c1, 256, .inl X))] H := by
              try rw [hF9]
              exact hP.sub [0, 1] rfl
            have hD9 : va_D A [(q, .inr (5, [.int th, .ref tx, .int (nI mz), .int fl, .int (bI it), .long al, .ref pt, .int (nI dg), .ref ot, .int (nI wr), .int (nI kz), .ref ka, .ref kd, .ref kp, .int (nI (mZone X mz ma wg kind).2.1), .int (bI (mZone X mz ma wg kind).2.2)])), (tx, .inl (c1, 256, .inl X))] := by
              try rw [hF9]
              exact hD.sub [0, 1] (by decide) rfl
            have hv9 : 0 - ((3600 * v_78.1) + (60 * v_101.1)) = (mZone X mz ma wg kind).1 := by
              try rw [hF9]
              try rfl
            exact kc_iret hx hb hr hlocks hv9 hP9 hD9 hS dX5_readZone_120
          · refine lv_iload_n hx hb dX5_readZone_113 rfl (lv_at hl 0 rfl) ?_
            refine lv_goto (tgt := 120) hx hb dX5_readZone_114 (by decide) ?_
            have hF9 : mZone X mz ma wg kind = ((3600 * v_78.1) + (60 * v_101.1), v_101.2.1, v_101.2.2) := by
              subst e_101
              subst e_78
              first | (simp only [mZone, if_neg c_8, if_neg c_38, if_neg c_48, if_pos c_84, if_pos c_110]; done) | rfl
            have hP9 : va_P (dC, dI) kcl [(q, .inr (5, [.int th, .ref tx, .int (nI mz), .int fl, .int (bI it), .long al, .ref pt, .int (nI dg), .ref ot, .int (nI wr), .int (nI kz), .ref ka, .ref kd, .ref kp, .int (nI (mZone X mz ma wg kind).2.1), .int (bI (mZone X mz ma wg kind).2.2)])), (tx, .inl (c1, 256, .inl X))] H := by
              try rw [hF9]
              exact hP.sub [0, 1] rfl
            have hD9 : va_D A [(q, .inr (5, [.int th, .ref tx, .int (nI mz), .int fl, .int (bI it), .long al, .ref pt, .int (nI dg), .ref ot, .int (nI wr), .int (nI kz), .ref ka, .ref kd, .ref kp, .int (nI (mZone X mz ma wg kind).2.1), .int (bI (mZone X mz ma wg kind).2.2)])), (tx, .inl (c1, 256, .inl X))] := by
              try rw [hF9]
              exact hD.sub [0, 1] (by decide) rfl
            have hv9 : (3600 * v_78.1) + (60 * v_101.1) = (mZone X mz ma wg kind).1 := by
              try rw [hF9]
              try rfl
            exact kc_iret hx hb hr hlocks hv9 hP9 hD9 hS dX5_readZone_120
        · refine lv_aload_n hx hb dX5_readZone_87 rfl (lv_at hl 2 rfl) ?_
          have hPc := hP.sub (ws' := [(q, .inr (5, [.int th, .ref tx, .int (nI mz), .int fl, .int (bI it), .long al, .ref pt, .int (nI dg), .ref ot, .int (nI wr), .int (nI kz), .ref ka, .ref kd, .ref kp, .int (nI v_78.2.1), .int (bI v_78.2.2)])), (tx, .inl (c1, 256, .inl X))]) [0, 1] rfl
          have hDc := hD.sub (ws' := [(q, .inr (5, [.int th, .ref tx, .int (nI mz), .int fl, .int (bI it), .long al, .ref pt, .int (nI dg), .ref ot, .int (nI wr), .int (nI kz), .ref ka, .ref kd, .ref kp, .int (nI v_78.2.1), .int (bI v_78.2.2)])), (tx, .inl (c1, 256, .inl X))]) [0, 1] (by decide) rfl
          have hKc := hK.sub (tys' := [(c1, .int)]) [0] rfl
          have hFc := va_free (wc := [(q, .inr (5, [.int th, .ref tx, .int (nI mz), .int fl, .int (bI it), .long al, .ref pt, .int (nI dg), .ref ot, .int (nI wr), .int (nI kz), .ref ka, .ref kd, .ref kp, .int (nI v_78.2.1), .int (bI v_78.2.2)])), (tx, .inl (c1, 256, .inl X))]) hD hS hA [0, 1] rfl
          refine kc_callSi (val := bI (mDig X mz v_78.2.1)) (va_runV (As := []) (rest := []) ⟨hx, hb, hml, hown, hts⟩ (m_isDigit l dC dI st H.size q th tx mz fl it al pt dg ot wr kz ka kd kp v_78.2.1 v_78.2.2 c1 X hz (by omega)) (cwV 0 hts (kwV kwm_228 kwm_229 kwm_230 kwm_203 kwm_227) rfl rfl rfl (by decide +kernel) ⟨Nat.le_of_ble_eq_true rfl, Nat.le_of_ble_eq_true rfl⟩) ⟨kc_blind, va_recv hKc hPc (ci := 5) (q0 := 0) rfl rfl, kc_pre hG hS hFc hKc hPc hDc⟩ rfl rfl hl.1 rfl (lv_room (Nat.le_of_ble_eq_true rfl)) dX5_readZone_88 ⟨Nat.le_of_ble_eq_true rfl, Nat.le_of_ble_eq_true rfl⟩) ?_
          refine lv_if_eq (tgt := 107) hx hb dX5_readZone_91 (by decide) (fun c_91 => ?_) (fun c_91 => ?_)
          · refine lv_iload_n hx hb dX5_readZone_107 rfl (lv_at hl 1 rfl) ?_
            refine lv_bipush (v := 43) hx hb dX5_readZone_108 (by decide) ?_
            refine lv_icmp_ne (tgt := 117) hx hb dX5_readZone_110 (by decide) (fun c_110 => ?_) (fun c_110 => ?_)
            · refine lv_iconst (v := 0) hx hb dX5_readZone_117 (by decide) ?_
              refine lv_iload_n hx hb dX5_readZone_118 rfl (lv_at hl 0 rfl) ?_
              refine lv_isub hx hb dX5_readZone_119 ?_
              have hF9 : mZone X mz ma wg kind = (0 - (3600 * v_78.1), v_78.2.1, v_78.2.2) := by
                subst e_78
                first | (simp only [mZone, if_neg c_8, if_neg c_38, if_neg c_48, if_neg c_84, if_pos c_91, if_neg c_110]; done) | rfl
              have hP9 : va_P (dC, dI) kcl [(q, .inr (5, [.int th, .ref tx, .int (nI mz), .int fl, .int (bI it), .long al, .ref pt, .int (nI dg), .ref ot, .int (nI wr), .int (nI kz), .ref ka, .ref kd, .ref kp, .int (nI (mZone X mz ma wg kind).2.1), .int (bI (mZone X mz ma wg kind).2.2)])), (tx, .inl (c1, 256, .inl X))] H := by
                try rw [hF9]
                exact hP.sub [0, 1] rfl
              have hD9 : va_D A [(q, .inr (5, [.int th, .ref tx, .int (nI mz), .int fl, .int (bI it), .long al, .ref pt, .int (nI dg), .ref ot, .int (nI wr), .int (nI kz), .ref ka, .ref kd, .ref kp, .int (nI (mZone X mz ma wg kind).2.1), .int (bI (mZone X mz ma wg kind).2.2)])), (tx, .inl (c1, 256, .inl X))] := by
                try rw [hF9]
                exact hD.sub [0, 1] (by decide) rfl
              have hv9 : 0 - (3600 * v_78.1) = (mZone X mz ma wg kind).1 := by
                try rw [hF9]
                try rfl
              exact kc_iret hx hb hr hlocks hv9 hP9 hD9 hS dX5_readZone_120
            · refine lv_iload_n hx hb dX5_readZone_113 rfl (lv_at hl 0 rfl) ?_
              refine lv_goto (tgt := 120) hx hb dX5_readZone_114 (by decide) ?_
              have hF9 : mZone X mz ma wg kind = (3600 * v_78.1, v_78.2.1, v_78.2.2) := by
                subst e_78
                first | (simp only [mZone, if_neg c_8, if_neg c_38, if_neg c_48, if_neg c_84, if_pos c_91, if_pos c_110]; done) | rfl
              have hP9 : va_P (dC, dI) kcl [(q, .inr (5, [.int th, .ref tx, .int (nI mz), .int fl, .int (bI it), .long al, .ref pt, .int (nI dg), .ref ot, .int (nI wr), .int (nI kz), .ref ka, .ref kd, .ref kp, .int (nI (mZone X mz ma wg kind).2.1), .int (bI (mZone X mz ma wg kind).2.2)])), (tx, .inl (c1, 256, .inl X))] H := by
                try rw [hF9]
                exact hP.sub [0, 1] rfl
              have hD9 : va_D A [(q, .inr (5, [.int th, .ref tx, .int (nI mz), .int fl, .int (bI it), .long al, .ref pt, .int (nI dg), .ref ot, .int (nI wr), .int (nI kz), .ref ka, .ref kd, .ref kp, .int (nI (mZone X mz ma wg kind).2.1), .int (bI (mZone X mz ma wg kind).2.2)])), (tx, .inl (c1, 256, .inl X))] := by
                try rw [hF9]
                exact hD.sub [0, 1] (by decide) rfl
              have hv9 : 3600 * v_78.1 = (mZone X mz ma wg kind).1 := by
                try rw [hF9]
                try rfl
              exact kc_iret hx hb hr hlocks hv9 hP9 hD9 hS dX5_readZone_120
          · refine lv_iload_n hx hb dX5_readZone_94 rfl (lv_at hl 0 rfl) ?_
            refine lv_bipush (v := 60) hx hb dX5_readZone_95 (by decide) ?_
            refine lv_aload_n hx hb dX5_readZone_97 rfl (lv_at hl 2 rfl) ?_
            refine lv_iconst (v := 0) hx hb dX5_readZone_98 (by decide) ?_
            refine lv_bipush (v := 59) hx hb dX5_readZone_99 (by decide) ?_
            have hPc := hP.sub (ws' := [(q, .inr (5, [.int th, .ref tx, .int (nI mz), .int fl, .int (bI it), .long al, .ref pt, .int (nI dg), .ref ot, .int (nI wr), .int (nI kz), .ref ka, .ref kd, .ref kp, .int (nI v_78.2.1), .int (bI v_78.2.2)])), (tx, .inl (c1, 256, .inl X))]) [0, 1] rfl
            have hDc := hD.sub (ws' := [(q, .inr (5, [.int th, .ref tx, .int (nI mz), .int fl, .int (bI it), .long al, .ref pt, .int (nI dg), .ref ot, .int (nI wr), .int (nI kz), .ref ka, .ref kd, .ref kp, .int (nI v_78.2.1), .int (bI v_78.2.2)])), (tx, .inl (c1, 256, .inl X))]) [0, 1] (by decide) rfl
            have hKc := hK.sub (tys' := [(c1, .int)]) [0] rfl
            have hFc := va_free (wc := [(q, .inr (5, [.int th, .ref tx, .int (nI mz), .int fl, .int (bI it), .long al, .ref pt, .int (nI dg), .ref ot, .int (nI wr), .int (nI kz), .ref ka, .ref kd, .ref kp, .int (nI v_78.2.1), .int (bI v_78.2.2)])), (tx, .inl (c1, 256, .inl X))]) hD hS hA [0, 1] rfl
            refine kc_calli (val := (mTwo X mz v_78.2.1 v_78.2.2 0 59).1) (wr := []) (w1 := [(q, .inr (5, [.int th, .ref tx, .int (nI mz), .int fl, .int (bI it), .long al, .ref pt, .int (nI dg), .ref ot, .int (nI wr), .int (nI kz), .ref ka, .ref kd, .ref kp, .int (nI (mTwo X mz v_78.2.1 v_78.2.2 0 59).2.1), .int (bI (mTwo X mz v_78.2.1 v_78.2.2 0 59).2.2)])), (tx, .inl (c1, 256, .inl X))]) (va_runV (As := [.int 0, .int 59]) (rest := [.int 60, .int (3600 * v_78.1)]) ⟨hx, hb, hml, hown, hts⟩ (m_two l dC dI st H.size q th tx mz fl it al pt dg ot wr kz ka kd kp v_78.2.1 v_78.2.2 c1 X 0 59 hz (by omega)) (cwV 2 hts (kwV kwm_243 kwm_244 kwm_245 kwm_203 kwm_242) rfl rfl rfl (by decide +kernel) ⟨Nat.le_of_ble_eq_true rfl, Nat.le_of_ble_eq_true rfl⟩) ⟨kc_blind, va_recv hKc hPc (ci := 5) (q0 := 0) rfl rfl, kc_pre hG hS hFc hKc hPc hDc⟩ rfl rfl hl.1 rfl (lv_room (Nat.le_of_ble_eq_true rfl)) dX5_readZone_101 ⟨Nat.le_of_ble_eq_true rfl, Nat.le_of_ble_eq_true rfl⟩) hP hD hS hFc [0, 1] [] rfl rfl (by decide) (by decide) (fun H locs hP hD hS => ?_)
            have hP : va_P (dC, dI) kcl [(q, .inr (5, [.int th, .ref tx, .int (nI mz), .int fl, .int (bI it), .long al, .ref pt, .int (nI dg), .ref ot, .int (nI wr), .int (nI kz), .ref ka, .ref kd, .ref kp, .int (nI (mTwo X mz v_78.2.1 v_78.2.2 0 59).2.1), .int (bI (mTwo X mz v_78.2.1 v_78.2.2 0 59).2.2)])), (tx, .inl (c1, 256, .inl X))] H := hP
            have hD : va_D A [(q, .inr (5, [.int th, .ref tx, .int (nI mz), .int fl, .int (bI it), .long al, .ref pt, .int (nI dg), .ref ot, .int (nI wr), .int (nI kz), .ref ka, .ref kd, .ref kp, .int (nI (mTwo X mz v_78.2.1 v_78.2.2 0 59).2.1), .int (bI (mTwo X mz v_78.2.1 v_78.2.2 0 59).2.2)])), (tx, .inl (c1, 256, .inl X))] := hD
            generalize e_101 : mTwo X mz v_78.2.1 v_78.2.2 0 59 = v_101 at hP hD ⊢
            have hP : va_P (dC, dI) kcl [(q, .inr (5, [.int th, .ref tx, .int (nI mz), .int fl, .int (bI it), .long al, .ref pt, .int (nI dg), .ref ot, .int (nI wr), .int (nI kz), .ref ka, .ref kd, .ref kp, .int (nI v_101.2.1), .int (bI v_101.2.2)])), (tx, .inl (c1, 256, .inl X))] H := hP
            have hD : va_D A [(q, .inr (5, [.int th, .ref tx, .int (nI mz), .int fl, .int (bI it), .long al, .ref pt, .int (nI dg), .ref ot, .int (nI wr), .int (nI kz), .ref ka, .ref kd, .ref kp, .int (nI v_101.2.1), .int (bI v_101.2.2)])), (tx, .inl (c1, 256, .inl X))] := hD
            have hv101 : v_101.2.1 ≤ v_78.2.1 + 2 := by rw [← e_101]; exact mTwo_at
            refine lv_imul hx hb dX5_readZone_104 ?_
            refine lv_iadd hx hb dX5_readZone_105 ?_
            refine lv_istore_n (lv' := [(3, .int ((3600 * v_78.1) + (60 * v_101.1))), (2, .int (X ma)), (0, .ref q), (1, .int kind)]) hx hb dX5_readZone_106 rfl hl (by decide) rfl (fun ls hl => ?_)
            refine lv_iload_n hx hb dX5_readZone_107 rfl (lv_at hl 1 rfl) ?_
            refine lv_bipush (v := 43) hx hb dX5_readZone_108 (by decide) ?_
            refine lv_icmp_ne (tgt := 117) hx hb dX5_readZone_110 (by decide) (fun c_110 => ?_) (fun c_110 => ?_)
            · refine lv_iconst (v := 0) hx hb dX5_readZone_117 (by decide) ?_
              refine lv_iload_n hx hb dX5_readZone_118 rfl (lv_at hl 0 rfl) ?_
              refine lv_isub hx hb dX5_readZone_119 ?_
              have hF9 : mZone X mz ma wg kind = (0 - ((3600 * v_78.1) + (60 * v_101.1)), v_101.2.1, v_101.2.2) := by
                subst e_101
                subst e_78
                first | (simp only [mZone, if_neg c_8, if_neg c_38, if_neg c_48, if_neg c_84, if_neg c_91, if_neg c_110]; done) | rfl
              have hP9 : va_P (dC, dI) kcl [(q, .inr (5, [.int th, .ref tx, .int (nI mz), .int fl, .int (bI it), .long al, .ref pt, .int (nI dg), .ref ot, .int (nI wr), .int (nI kz), .ref ka, .ref kd, .ref kp, .int (nI (mZone X mz ma wg kind).2.1), .int (bI (mZone X mz ma wg kind).2.2)])), (tx, .inl (c1, 256, .inl X))] H := by
                try rw [hF9]
                exact hP.sub [0, 1] rfl
              have hD9 : va_D A [(q, .inr (5, [.int th, .ref tx, .int (nI mz), .int fl, .int (bI it), .long al, .ref pt, .int (nI dg), .ref ot, .int (nI wr), .int (nI kz), .ref ka, .ref kd, .ref kp, .int (nI (mZone X mz ma wg kind).2.1), .int (bI (mZone X mz ma wg kind).2.2)])), (tx, .inl (c1, 256, .inl X))] := by
                try rw [hF9]
                exact hD.sub [0, 1] (by decide) rfl
              have hv9 : 0 - ((3600 * v_78.1) + (60 * v_101.1)) = (mZone X mz ma wg kind).1 := by
                try rw [hF9]
                try rfl
              exact kc_iret hx hb hr hlocks hv9 hP9 hD9 hS dX5_readZone_120
            · refine lv_iload_n hx hb dX5_readZone_113 rfl (lv_at hl 0 rfl) ?_
              refine lv_goto (tgt := 120) hx hb dX5_readZone_114 (by decide) ?_
              have hF9 : mZone X mz ma wg kind = ((3600 * v_78.1) + (60 * v_101.1), v_101.2.1, v_101.2.2) := by
                subst e_101
                subst e_78
                first | (simp only [mZone, if_neg c_8, if_neg c_38, if_neg c_48, if_neg c_84, if_neg c_91, if_pos c_110]; done) | rfl
              have hP9 : va_P (dC, dI) kcl [(q, .inr (5, [.int th, .ref tx, .int (nI mz), .int fl, .int (bI it), .long al, .ref pt, .int (nI dg), .ref ot, .int (nI wr), .int (nI kz), .ref ka, .ref kd, .ref kp, .int (nI (mZone X mz ma wg kind).2.1), .int (bI (mZone X mz ma wg kind).2.2)])), (tx, .inl (c1, 256, .inl X))] H := by
                try rw [hF9]
                exact hP.sub [0, 1] rfl
              have hD9 : va_D A [(q, .inr (5, [.int th, .ref tx, .int (nI mz), .int fl, .int (bI it), .long al, .ref pt, .int (nI dg), .ref ot, .int (nI wr), .int (nI kz), .ref ka, .ref kd, .ref kp, .int (nI (mZone X mz ma wg kind).2.1), .int (bI (mZone X mz ma wg kind).2.2)])), (tx, .inl (c1, 256, .inl X))] := by
                try rw [hF9]
                exact hD.sub [0, 1] (by decide) rfl
              have hv9 : (3600 * v_78.1) + (60 * v_101.1) = (mZone X mz ma wg kind).1 := by
                try rw [hF9]
                try rfl
              exact kc_iret hx hb hr hlocks hv9 hP9 hD9 hS dX5_readZone_120
      · refine lv_iload_n hx hb dX5_readZone_51 rfl (lv_at hl 0 rfl) ?_
        refine lv_bipush (v := 43) hx hb dX5_readZone_52 (by decide) ?_
        refine lv_icmp_eq (tgt := 67) hx hb dX5_readZone_54 (by decide) (fun c_54 => ?_) (fun c_54 => ?_)
        · refine lv_iconst (v := 0) hx hb dX5_readZone_67 (by decide) ?_
          refine va_put (D := (dC, dI)) (ci := 5) (v := .int 0) (ty := .boolean) (C := RX5) (T := TX5) (N := 16) hx hb hts kin_5 tyX5 tyX5_ok nmX5 hown hK hP hD hS 0 rfl rfl 15 (by decide) (hts _ (kcm kwm_235)) (fun _ h9 => h9) rfl (by decide +kernel) rfl rfl (Nat.le_of_ble_eq_true rfl) dX5_readZone_68 (fun H locs hP hD hS => ?_)
          have hP : va_P (dC, dI) kcl [(q, .inr (5, [.int th, .ref tx, .int (nI mz), .int fl, .int (bI it), .long al, .ref pt, .int (nI dg), .ref ot, .int (nI wr), .int (nI kz), .ref ka, .ref kd, .ref kp, .int (nI (ma + 1)), .int (bI false)])), (tx, .inl (c1, 256, .inl X))] H := hP
          have hD : va_D A [(q, .inr (5, [.int th, .ref tx, .int (nI mz), .int fl, .int (bI it), .long al, .ref pt, .int (nI dg), .ref ot, .int (nI wr), .int (nI kz), .ref ka, .ref kd, .ref kp, .int (nI (ma + 1)), .int (bI false)])), (tx, .inl (c1, 256, .inl X))] := hD
          refine lv_sipush (v := 3600) hx hb dX5_readZone_71 (by decide) ?_
          refine lv_aload_n hx hb dX5_readZone_74 rfl (lv_at hl 1 rfl) ?_
          refine lv_iconst (v := 0) hx hb dX5_readZone_75 (by decide) ?_
          refine lv_bipush (v := 23) hx hb dX5_readZone_76 (by decide) ?_
          have hPc := hP.sub (ws' := [(q, .inr (5, [.int th, .ref tx, .int (nI mz), .int fl, .int (bI it), .long al, .ref pt, .int (nI dg), .ref ot, .int (nI wr), .int (nI kz), .ref ka, .ref kd, .ref kp, .int (nI (ma + 1)), .int (bI false)])), (tx, .inl (c1, 256, .inl X))]) [0, 1] rfl
          have hDc := hD.sub (ws' := [(q, .inr (5, [.int th, .ref tx, .int (nI mz), .int fl, .int (bI it), .long al, .ref pt, .int (nI dg), .ref ot, .int (nI wr), .int (nI kz), .ref ka, .ref kd, .ref kp, .int (nI (ma + 1)), .int (bI false)])), (tx, .inl (c1, 256, .inl X))]) [0, 1] (by decide) rfl
          have hKc := hK.sub (tys' := [(c1, .int)]) [0] rfl
          have hFc := va_free (wc := [(q, .inr (5, [.int th, .ref tx, .int (nI mz), .int fl, .int (bI it), .long al, .ref pt, .int (nI dg), .ref ot, .int (nI wr), .int (nI kz), .ref ka, .ref kd, .ref kp, .int (nI (ma + 1)), .int (bI false)])), (tx, .inl (c1, 256, .inl X))]) hD hS hA [0, 1] rfl
          refine kc_calli (val := (mTwo X mz (ma + 1) false 0 23).1) (wr := []) (w1 := [(q, .inr (5, [.int th, .ref tx, .int (nI mz), .int fl, .int (bI it), .long al, .ref pt, .int (nI dg), .ref ot, .int (nI wr), .int (nI kz), .ref ka, .ref kd, .ref kp, .int (nI (mTwo X mz (ma + 1) false 0 23).2.1), .int (bI (mTwo X mz (ma + 1) false 0 23).2.2)])), (tx, .inl (c1, 256, .inl X))]) (va_runV (As := [.int 0, .int 23]) (rest := [.int 3600]) ⟨hx, hb, hml, hown, hts⟩ (m_two l dC dI st H.size q th tx mz fl it al pt dg ot wr kz ka kd kp (ma + 1) false c1 X 0 23 hz (by omega)) (cwV 2 hts (kwV kwm_243 kwm_244 kwm_245 kwm_203 kwm_242) rfl rfl rfl (by decide +kernel) ⟨Nat.le_of_ble_eq_true rfl, Nat.le_of_ble_eq_true rfl⟩) ⟨kc_blind, va_recv hKc hPc (ci := 5) (q0 := 0) rfl rfl, kc_pre hG hS hFc hKc hPc hDc⟩ rfl rfl hl.1 rfl (lv_room (Nat.le_of_ble_eq_true rfl)) dX5_readZone_78 ⟨Nat.le_of_ble_eq_true rfl, Nat.le_of_ble_eq_true rfl⟩) hP hD hS hFc [0, 1] [] rfl rfl (by decide) (by decide) (fun H locs hP hD hS => ?_)
          have hP : va_P (dC, dI) kcl [(q, .inr (5, [.int th, .ref tx, .int (nI mz), .int fl, .int (bI it), .long al, .ref pt, .int (nI dg), .ref ot, .int (nI wr), .int (nI kz), .ref ka, .ref kd, .ref kp, .int (nI (mTwo X mz (ma + 1) false 0 23).2.1), .int (bI (mTwo X mz (ma + 1) false 0 23).2.2)])), (tx, .inl (c1, 256, .inl X))] H := hP
          have hD : va_D A [(q, .inr (5, [.int th, .ref tx, .int (nI mz), .int fl, .int (bI it), .long al, .ref pt, .int (nI dg), .ref ot, .int (nI wr), .int (nI kz), .ref ka, .ref kd, .ref kp, .int (nI (mTwo X mz (ma + 1) false 0 23).2.1), .int (bI (mTwo X mz (ma + 1) false 0 23).2.2)])), (tx, .inl (c1, 256, .inl X))] := hD
          generalize e_78 : mTwo X mz (ma + 1) false 0 23 = v_78 at hP hD ⊢
          have hP : va_P (dC, dI) kcl [(q, .inr (5, [.int th, .ref tx, .int (nI mz), .int fl, .int (bI it), .long al, .ref pt, .int (nI dg), .ref ot, .int (nI wr), .int (nI kz), .ref ka, .ref kd, .ref kp, .int (nI v_78.2.1), .int (bI v_78.2.2)])), (tx, .inl (c1, 256, .inl X))] H := hP
          have hD : va_D A [(q, .inr (5, [.int th, .ref tx, .int (nI mz), .int fl, .int (bI it), .long al, .ref pt, .int (nI dg), .ref ot, .int (nI wr), .int (nI kz), .ref ka, .ref kd, .ref kp, .int (nI v_78.2.1), .int (bI v_78.2.2)])), (tx, .inl (c1, 256, .inl X))] := hD
          have hv78 : v_78.2.1 ≤ (ma + 1) + 2 := by rw [← e_78]; exact mTwo_at
          refine lv_imul hx hb dX5_readZone_81 ?_
          refine lv_istore_n (lv' := [(3, .int (3600 * v_78.1)), (2, .int (X ma)), (0, .ref q), (1, .int kind)]) hx hb dX5_readZone_82 rfl hl (by decide) rfl (fun ls hl => ?_)
          refine lv_iload_n hx hb dX5_readZone_83 rfl (lv_at hl 3 rfl) ?_
          refine lv_if_eq (tgt := 94) hx hb dX5_readZone_84 (by decide) (fun c_84 => ?_) (fun c_84 => ?_)
          · refine lv_iload_n hx hb dX5_readZone_94 rfl (lv_at hl 0 rfl) ?_
            refine lv_bipush (v := 60) hx hb dX5_readZone_95 (by decide) ?_
            refine lv_aload_n hx hb dX5_readZone_97 rfl (lv_at hl 2 rfl) ?_
            refine lv_iconst (v := 0) hx hb dX5_readZone_98 (by decide) ?_
            refine lv_bipush (v := 59) hx hb dX5_readZone_99 (by decide) ?_
            have hPc := hP.sub (ws' := [(q, .inr (5, [.int th, .ref tx, .int (nI mz), .int fl, .int (bI it), .long al, .ref pt, .int (nI dg), .ref ot, .int (nI wr), .int (nI kz), .ref ka, .ref kd, .ref kp, .int (nI v_78.2.1), .int (bI v_78.2.2)])), (tx, .inl (c1, 256, .inl X))]) [0, 1] rfl
            have hDc := hD.sub (ws' := [(q, .inr (5, [.int th, .ref tx, .int (nI mz), .int fl, .int (bI it), .long al, .ref pt, .int (nI dg), .ref ot, .int (nI wr), .int (nI kz), .ref ka, .ref kd, .ref kp, .int (nI v_78.2.1), .int (bI v_78.2.2)])), (tx, .inl (c1, 256, .inl X))]) [0, 1] (by decide) rfl
            have hKc := hK.sub (tys' := [(c1, .int)]) [0] rfl
            have hFc := va_free (wc := [(q, .inr (5, [.int th, .ref tx, .int (nI mz), .int fl, .int (bI it), .long al, .ref pt, .int (nI dg), .ref ot, .int (nI wr), .int (nI kz), .ref ka, .ref kd, .ref kp, .int (nI v_78.2.1), .int (bI v_78.2.2)])), (tx, .inl (c1, 256, .inl X))]) hD hS hA [0, 1] rfl
            refine kc_calli (val := (mTwo X mz v_78.2.1 v_78.2.2 0 59).1) (wr := []) (w1 := [(q, .inr (5, [.int th, .ref tx, .int (nI mz), .int fl, .int (bI it), .long al, .ref pt, .int (nI dg), .ref ot, .int (nI wr), .int (nI kz), .ref ka, .ref kd, .ref kp, .int (nI (mTwo X mz v_78.2.1 v_78.2.2 0 59).2.1), .int (bI (mTwo X mz v_78.2.1 v_78.2.2 0 59).2.2)])), (tx, .inl (c1, 256, .inl X))]) (va_runV (As := [.int 0, .int 59]) (rest := [.int 60, .int (3600 * v_78.1)]) ⟨hx, hb, hml, hown, hts⟩ (m_two l dC dI st H.size q th tx mz fl it al pt dg ot wr kz ka kd kp v_78.2.1 v_78.2.2 c1 X 0 59 hz (by omega)) (cwV 2 hts (kwV kwm_243 kwm_244 kwm_245 kwm_203 kwm_242) rfl rfl rfl (by decide +kernel) ⟨Nat.le_of_ble_eq_true rfl, Nat.le_of_ble_eq_true rfl⟩) ⟨kc_blind, va_recv hKc hPc (ci := 5) (q0 := 0) rfl rfl, kc_pre hG hS hFc hKc hPc hDc⟩ rfl rfl hl.1 rfl (lv_room (Nat.le_of_ble_eq_true rfl)) dX5_readZone_101 ⟨Nat.le_of_ble_eq_true rfl, Nat.le_of_ble_eq_true rfl⟩) hP hD hS hFc [0, 1] [] rfl rfl (by decide) (by decide) (fun H locs hP hD hS => ?_)
            have hP : va_P (dC, dI) kcl [(q, .inr (5, [.int th, .ref tx, .int (nI mz), .int fl, .int (bI it), .long al, .ref pt, .int (nI dg), .ref ot, .int (nI wr), .int (nI kz), .ref ka, .ref kd, .ref kp, .int (nI (mTwo X mz v_78.2.1 v_78.2.2 0 59).2.1), .int (bI (mTwo X mz v_78.2.1 v_78.2.2 0 59).2.2)])), (tx, .inl (c1, 256, .inl X))] H := hP
            have hD : va_D A [(q, .inr (5, [.int th, .ref tx, .int (nI mz), .int fl, .int (bI it), .long al, .ref pt, .int (nI dg), .ref ot, .int (nI wr), .int (nI kz), .ref ka, .ref kd, .ref kp, .int (nI (mTwo X mz v_78.2.1 v_78.2.2 0 59).2.1), .int (bI (mTwo X mz v_78.2.1 v_78.2.2 0 59).2.2)])), (tx, .inl (c1, 256, .inl X))] := hD
            generalize e_101 : mTwo X mz v_78.2.1 v_78.2.2 0 59 = v_101 at hP hD ⊢
            have hP : va_P (dC, dI) kcl [(q, .inr (5, [.int th, .ref tx, .int (nI mz), .int fl, .int (bI it), .long al, .ref pt, .int (nI dg), .ref ot, .int (nI wr), .int (nI kz), .ref ka, .ref kd, .ref kp, .int (nI v_101.2.1), .int (bI v_101.2.2)])), (tx, .inl (c1, 256, .inl X))] H := hP
            have hD : va_D A [(q, .inr (5, [.int th, .ref tx, .int (nI mz), .int fl, .int (bI it), .long al, .ref pt, .int (nI dg), .ref ot, .int (nI wr), .int (nI kz), .ref ka, .ref kd, .ref kp, .int (nI v_101.2.1), .int (bI v_101.2.2)])), (tx, .inl (c1, 256, .inl X))] := hD
            have hv101 : v_101.2.1 ≤ v_78.2.1 + 2 := by rw [← e_101]; exact mTwo_at
            refine lv_imul hx hb dX5_readZone_104 ?_
            refine lv_iadd hx hb dX5_readZone_105 ?_
            refine lv_istore_n (lv' := [(3, .int ((3600 * v_78.1) + (60 * v_101.1))), (2, .int (X ma)), (0, .ref q), (1, .int kind)]) hx hb dX5_readZone_106 rfl hl (by decide) rfl (fun ls hl => ?_)
            refine lv_iload_n hx hb dX5_readZone_107 rfl (lv_at hl 1 rfl) ?_
            refine lv_bipush (v := 43) hx hb dX5_readZone_108 (by decide) ?_
            refine lv_icmp_ne (tgt := 117) hx hb dX5_readZone_110 (by decide) (fun c_110 => ?_) (fun c_110 => ?_)
            · exact absurd c_54 c_110
            · refine lv_iload_n hx hb dX5_readZone_113 rfl (lv_at hl 0 rfl) ?_
              refine lv_goto (tgt := 120) hx hb dX5_readZone_114 (by decide) ?_
              have hF9 : mZone X mz ma wg kind = ((3600 * v_78.1) + (60 * v_101.1), v_101.2.1, v_101.2.2) := by
                subst e_101
                subst e_78
                first | (simp only [mZone, if_neg c_8, if_neg c_38, if_pos c_48, if_pos c_54, if_pos c_84]; done) | rfl
              have hP9 : va_P (dC, dI) kcl [(q, .inr (5, [.int th, .ref tx, .int (nI mz), .int fl, .int (bI it), .long al, .ref pt, .int (nI dg), .ref ot, .int (nI wr), .int (nI kz), .ref ka, .ref kd, .ref kp, .int (nI (mZone X mz ma wg kind).2.1), .int (bI (mZone X mz ma wg kind).2.2)])), (tx, .inl (c1, 256, .inl X))] H := by
                try rw [hF9]
                exact hP.sub [0, 1] rfl
              have hD9 : va_D A [(q, .inr (5, [.int th, .ref tx, .int (nI mz), .int fl, .int (bI it), .long al, .ref pt, .int (nI dg), .ref ot, .int (nI wr), .int (nI kz), .ref ka, .ref kd, .ref kp, .int (nI (mZone X mz ma wg kind).2.1), .int (bI (mZone X mz ma wg kind).2.2)])), (tx, .inl (c1, 256, .inl X))] := by
                try rw [hF9]
                exact hD.sub [0, 1] (by decide) rfl
              have hv9 : (3600 * v_78.1) + (60 * v_101.1) = (mZone X mz ma wg kind).1 := by
                try rw [hF9]
                try rfl
              exact kc_iret hx hb hr hlocks hv9 hP9 hD9 hS dX5_readZone_120
          · refine lv_aload_n hx hb dX5_readZone_87 rfl (lv_at hl 2 rfl) ?_
            have hPc := hP.sub (ws' := [(q, .inr (5, [.int th, .ref tx, .int (nI mz), .int fl, .int (bI it), .long al, .ref pt, .int (nI dg), .ref ot, .int (nI wr), .int (nI kz), .ref ka, .ref kd, .ref kp, .int (nI v_78.2.1), .int (bI v_78.2.2)])), (tx, .inl (c1, 256, .inl X))]) [0, 1] rfl
            have hDc := hD.sub (ws' := [(q, .inr (5, [.int th, .ref tx, .int (nI mz), .int fl, .int (bI it), .long al, .ref pt, .int (nI dg), .ref ot, .int (nI wr), .int (nI kz), .ref ka, .ref kd, .ref kp, .int (nI v_78.2.1), .int (bI v_78.2.2)])), (tx, .inl (c1, 256, .inl X))]) [0, 1] (by decide) rfl
            have hKc := hK.sub (tys' := [(c1, .int)]) [0] rfl
            have hFc := va_free (wc := [(q, .inr (5, [.int th, .ref tx, .int (nI mz), .int fl, .int (bI it), .long al, .ref pt, .int (nI dg), .ref ot, .int (nI wr), .int (nI kz), .ref ka, .ref kd, .ref kp, .int (nI v_78.2.1), .int (bI v_78.2.2)])), (tx, .inl (c1, 256, .inl X))]) hD hS hA [0, 1] rfl
            refine kc_callSi (val := bI (mDig X mz v_78.2.1)) (va_runV (As := []) (rest := []) ⟨hx, hb, hml, hown, hts⟩ (m_isDigit l dC dI st H.size q th tx mz fl it al pt dg ot wr kz ka kd kp v_78.2.1 v_78.2.2 c1 X hz (by omega)) (cwV 0 hts (kwV kwm_228 kwm_229 kwm_230 kwm_203 kwm_227) rfl rfl rfl (by decide +kernel) ⟨Nat.le_of_ble_eq_true rfl, Nat.le_of_ble_eq_true rfl⟩) ⟨kc_blind, va_recv hKc hPc (ci := 5) (q0 := 0) rfl rfl, kc_pre hG hS hFc hKc hPc hDc⟩ rfl rfl hl.1 rfl (lv_room (Nat.le_of_ble_eq_true rfl)) dX5_readZone_88 ⟨Nat.le_of_ble_eq_true rfl, Nat.le_of_ble_eq_true rfl⟩) ?_
            refine lv_if_eq (tgt := 107) hx hb dX5_readZone_91 (by decide) (fun c_91 => ?_) (fun c_91 => ?_)
            · refine lv_iload_n hx hb dX5_readZone_107 rfl (lv_at hl 1 rfl) ?_
              refine lv_bipush (v := 43) hx hb dX5_readZone_108 (by decide) ?_
              refine lv_icmp_ne (tgt := 117) hx hb dX5_readZone_110 (by decide) (fun c_110 => ?_) (fun c_110 => ?_)
              · exact absurd c_54 c_110
              · refine lv_iload_n hx hb dX5_readZone_113 rfl (lv_at hl 0 rfl) ?_
                refine lv_goto (tgt := 120) hx hb dX5_readZone_114 (by decide) ?_
                have hF9 : mZone X mz ma wg kind = (3600 * v_78.1, v_78.2.1, v_78.2.2) := by
                  subst e_78
                  first | (simp only [mZone, if_neg c_8, if_neg c_38, if_pos c_48, if_pos c_54, if_neg c_84, if_pos c_91]; done) | rfl
                have hP9 : va_P (dC, dI) kcl [(q, .inr (5, [.int th, .ref tx, .int (nI mz), .int fl, .int (bI it), .long al, .ref pt, .int (nI dg), .ref ot, .int (nI wr), .int (nI kz), .ref ka, .ref kd, .ref kp, .int (nI (mZone X mz ma wg kind).2.1), .int (bI (mZone X mz ma wg kind).2.2)])), (tx, .inl (c1, 256, .inl X))] H := by
                  try rw [hF9]
                  exact hP.sub [0, 1] rfl
                have hD9 : va_D A [(q, .inr (5, [.int th, .ref tx, .int (nI mz), .int fl, .int (bI it), .long al, .ref pt, .int (nI dg), .ref ot, .int (nI wr), .int (nI kz), .ref ka, .ref kd, .ref kp, .int (nI (mZone X mz ma wg kind).2.1), .int (bI (mZone X mz ma wg kind).2.2)])), (tx, .inl (c1, 256, .inl X))] := by
                  try rw [hF9]
                  exact hD.sub [0, 1] (by decide) rfl
                have hv9 : 3600 * v_78.1 = (mZone X mz ma wg kind).1 := by
                  try rw [hF9]
                  try rfl
                exact kc_iret hx hb hr hlocks hv9 hP9 hD9 hS dX5_readZone_120
            · refine lv_iload_n hx hb dX5_readZone_94 rfl (lv_at hl 0 rfl) ?_
              refine lv_bipush (v := 60) hx hb dX5_readZone_95 (by decide) ?_
              refine lv_aload_n hx hb dX5_readZone_97 rfl (lv_at hl 2 rfl) ?_
              refine lv_iconst (v := 0) hx hb dX5_readZone_98 (by decide) ?_
              refine lv_bipush (v := 59) hx hb dX5_readZone_99 (by decide) ?_
              have hPc := hP.sub (ws' := [(q, .inr (5, [.int th, .ref tx, .int (nI mz), .int fl, .int (bI it), .long al, .ref pt, .int (nI dg), .ref ot, .int (nI wr), .int (nI kz), .ref ka, .ref kd, .ref kp, .int (nI v_78.2.1), .int (bI v_78.2.2)])), (tx, .inl (c1, 256, .inl X))]) [0, 1] rfl
              have hDc := hD.sub (ws' := [(q, .inr (5, [.int th, .ref tx, .int (nI mz), .int fl, .int (bI it), .long al, .ref pt, .int (nI dg), .ref ot, .int (nI wr), .int (nI kz), .ref ka, .ref kd, .ref kp, .int (nI v_78.2.1), .int (bI v_78.2.2)])), (tx, .inl (c1, 256, .inl X))]) [0, 1] (by decide) rfl
              have hKc := hK.sub (tys' := [(c1, .int)]) [0] rfl
              have hFc := va_free (wc := [(q, .inr (5, [.int th, .ref tx, .int (nI mz), .int fl, .int (bI it), .long al, .ref pt, .int (nI dg), .ref ot, .int (nI wr), .int (nI kz), .ref ka, .ref kd, .ref kp, .int (nI v_78.2.1), .int (bI v_78.2.2)])), (tx, .inl (c1, 256, .inl X))]) hD hS hA [0, 1] rfl
              refine kc_calli (val := (mTwo X mz v_78.2.1 v_78.2.2 0 59).1) (wr := []) (w1 := [(q, .inr (5, [.int th, .ref tx, .int (nI mz), .int fl, .int (bI it), .long al, .ref pt, .int (nI dg), .ref ot, .int (nI wr), .int (nI kz), .ref ka, .ref kd, .ref kp, .int (nI (mTwo X mz v_78.2.1 v_78.2.2 0 59).2.1), .int (bI (mTwo X mz v_78.2.1 v_78.2.2 0 59).2.2)])), (tx, .inl (c1, 256, .inl X))]) (va_runV (As := [.int 0, .int 59]) (rest := [.int 60, .int (3600 * v_78.1)]) ⟨hx, hb, hml, hown, hts⟩ (m_two l dC dI st H.size q th tx mz fl it al pt dg ot wr kz ka kd kp v_78.2.1 v_78.2.2 c1 X 0 59 hz (by omega)) (cwV 2 hts (kwV kwm_243 kwm_244 kwm_245 kwm_203 kwm_242) rfl rfl rfl (by decide +kernel) ⟨Nat.le_of_ble_eq_true rfl, Nat.le_of_ble_eq_true rfl⟩) ⟨kc_blind, va_recv hKc hPc (ci := 5) (q0 := 0) rfl rfl, kc_pre hG hS hFc hKc hPc hDc⟩ rfl rfl hl.1 rfl (lv_room (Nat.le_of_ble_eq_true rfl)) dX5_readZone_101 ⟨Nat.le_of_ble_eq_true rfl, Nat.le_of_ble_eq_true rfl⟩) hP hD hS hFc [0, 1] [] rfl rfl (by decide) (by decide) (fun H locs hP hD hS => ?_)
              have hP : va_P (dC, dI) kcl [(q, .inr (5, [.int th, .ref tx, .int (nI mz), .int fl, .int (bI it), .long al, .ref pt, .int (nI dg), .ref ot, .int (nI wr), .int (nI kz), .ref ka, .ref kd, .ref kp, .int (nI (mTwo X mz v_78.2.1 v_78.2.2 0 59).2.1), .int (bI (mTwo X mz v_78.2.1 v_78.2.2 0 59).2.2)])), (tx, .inl (c1, 256, .inl X))] H := hP
              have hD : va_D A [(q, .inr (5, [.int th, .ref tx, .int (nI mz), .int fl, .int (bI it), .long al, .ref pt, .int (nI dg), .ref ot, .int (nI wr), .int (nI kz), .ref ka, .ref kd, .ref kp, .int (nI (mTwo X mz v_78.2.1 v_78.2.2 0 59).2.1), .int (bI (mTwo X mz v_78.2.1 v_78.2.2 0 59).2.2)])), (tx, .inl (c1, 256, .inl X))] := hD
              generalize e_101 : mTwo X mz v_78.2.1 v_78.2.2 0 59 = v_101 at hP hD ⊢
              have hP : va_P (dC, dI) kcl [(q, .inr (5, [.int th, .ref tx, .int (nI mz), .int fl, .int (bI it), .long al, .ref pt, .int (nI dg), .ref ot, .int (nI wr), .int (nI kz), .ref ka, .ref kd, .ref kp, .int (nI v_101.2.1), .int (bI v_101.2.2)])), (tx, .inl (c1, 256, .inl X))] H := hP
              have hD : va_D A [(q, .inr (5, [.int th, .ref tx, .int (nI mz), .int fl, .int (bI it), .long al, .ref pt, .int (nI dg), .ref ot, .int (nI wr), .int (nI kz), .ref ka, .ref kd, .ref kp, .int (nI v_101.2.1), .int (bI v_101.2.2)])), (tx, .inl (c1, 256, .inl X))] := hD
              have hv101 : v_101.2.1 ≤ v_78.2.1 + 2 := by rw [← e_101]; exact mTwo_at
              refine lv_imul hx hb dX5_readZone_104 ?_
              refine lv_iadd hx hb dX5_readZone_105 ?_
              refine lv_istore_n (lv' := [(3, .int ((3600 * v_78.1) + (60 * v_101.1))), (2, .int (X ma)), (0, .ref q), (1, .int kind)]) hx hb dX5_readZone_106 rfl hl (by decide) rfl (fun ls hl => ?_)
              refine lv_iload_n hx hb dX5_readZone_107 rfl (lv_at hl 1 rfl) ?_
              refine lv_bipush (v := 43) hx hb dX5_readZone_108 (by decide) ?_
              refine lv_icmp_ne (tgt := 117) hx hb dX5_readZone_110 (by decide) (fun c_110 => ?_) (fun c_110 => ?_)
              · exact absurd c_54 c_110
              · refine lv_iload_n hx hb dX5_readZone_113 rfl (lv_at hl 0 rfl) ?_
                refine lv_goto (tgt := 120) hx hb dX5_readZone_114 (by decide) ?_
                have hF9 : mZone X mz ma wg kind = ((3600 * v_78.1) + (60 * v_101.1), v_101.2.1, v_101.2.2) := by
                  subst e_101
                  subst e_78
                  first | (simp only [mZone, if_neg c_8, if_neg c_38, if_pos c_48, if_pos c_54, if_neg c_84, if_neg c_91]; done) | rfl
                have hP9 : va_P (dC, dI) kcl [(q, .inr (5, [.int th, .ref tx, .int (nI mz), .int fl, .int (bI it), .long al, .ref pt, .int (nI dg), .ref ot, .int (nI wr), .int (nI kz), .ref ka, .ref kd, .ref kp, .int (nI (mZone X mz ma wg kind).2.1), .int (bI (mZone X mz ma wg kind).2.2)])), (tx, .inl (c1, 256, .inl X))] H := by
                  try rw [hF9]
                  exact hP.sub [0, 1] rfl
                have hD9 : va_D A [(q, .inr (5, [.int th, .ref tx, .int (nI mz), .int fl, .int (bI it), .long al, .ref pt, .int (nI dg), .ref ot, .int (nI wr), .int (nI kz), .ref ka, .ref kd, .ref kp, .int (nI (mZone X mz ma wg kind).2.1), .int (bI (mZone X mz ma wg kind).2.2)])), (tx, .inl (c1, 256, .inl X))] := by
                  try rw [hF9]
                  exact hD.sub [0, 1] (by decide) rfl
                have hv9 : (3600 * v_78.1) + (60 * v_101.1) = (mZone X mz ma wg kind).1 := by
                  try rw [hF9]
                  try rfl
                exact kc_iret hx hb hr hlocks hv9 hP9 hD9 hS dX5_readZone_120
        · refine lv_iload_n hx hb dX5_readZone_57 rfl (lv_at hl 0 rfl) ?_
          refine lv_bipush (v := 45) hx hb dX5_readZone_58 (by decide) ?_
          refine lv_icmp_eq (tgt := 67) hx hb dX5_readZone_60 (by decide) (fun c_60 => ?_) (fun c_60 => ?_)
          · refine lv_iconst (v := 0) hx hb dX5_readZone_67 (by decide) ?_
            refine va_put (D := (dC, dI)) (ci := 5) (v := .int 0) (ty := .boolean) (C := RX5) (T := TX5) (N := 16) hx hb hts kin_5 tyX5 tyX5_ok nmX5 hown hK hP hD hS 0 rfl rfl 15 (by decide) (hts _ (kcm kwm_235)) (fun _ h9 => h9) rfl (by decide +kernel) rfl rfl (Nat.le_of_ble_eq_true rfl) dX5_readZone_68 (fun H locs hP hD hS => ?_)
            have hP : va_P (dC, dI) kcl [(q, .inr (5, [.int th, .ref tx, .int (nI mz), .int fl, .int (bI it), .long al, .ref pt, .int (nI dg), .ref ot, .int (nI wr), .int (nI kz), .ref ka, .ref kd, .ref kp, .int (nI (ma + 1)), .int (bI false)])), (tx, .inl (c1, 256, .inl X))] H := hP
            have hD : va_D A [(q, .inr (5, [.int th, .ref tx, .int (nI mz), .int fl, .int (bI it), .long al, .ref pt, .int (nI dg), .ref ot, .int (nI wr), .int (nI kz), .ref ka, .ref kd, .ref kp, .int (nI (ma + 1)), .int (bI false)])), (tx, .inl (c1, 256, .inl X))] := hD
            refine lv_sipush (v := 3600) hx hb dX5_readZone_71 (by decide) ?_
            refine lv_aload_n hx hb dX5_readZone_74 rfl (lv_at hl 1 rfl) ?_
            refine lv_iconst (v := 0) hx hb dX5_readZone_75 (by decide) ?_
            refine lv_bipush (v := 23) hx hb dX5_readZone_76 (by decide) ?_
            have hPc := hP.sub (ws' := [(q, .inr (5, [.int th, .ref tx, .int (nI mz), .int fl, .int (bI it), .long al, .ref pt, .int (nI dg), .ref ot, .int (nI wr), .int (nI kz), .ref ka, .ref kd, .ref kp, .int (nI (ma + 1)), .int (bI false)])), (tx, .inl (c1, 256, .inl X))]) [0, 1] rfl
            have hDc := hD.sub (ws' := [(q, .inr (5, [.int th, .ref tx, .int (nI mz), .int fl, .int (bI it), .long al, .ref pt, .int (nI dg), .ref ot, .int (nI wr), .int (nI kz), .ref ka, .ref kd, .ref kp, .int (nI (ma + 1)), .int (bI false)])), (tx, .inl (c1, 256, .inl X))]) [0, 1] (by decide) rfl
            have hKc := hK.sub (tys' := [(c1, .int)]) [0] rfl
            have hFc := va_free (wc := [(q, .inr (5, [.int th, .ref tx, .int (nI mz), .int fl, .int (bI it), .long al, .ref pt, .int (nI dg), .ref ot, .int (nI wr), .int (nI kz), .ref ka, .ref kd, .ref kp, .int (nI (ma + 1)), .int (bI false)])), (tx, .inl (c1, 256, .inl X))]) hD hS hA [0, 1] rfl
            refine kc_calli (val := (mTwo X mz (ma + 1) false 0 23).1) (wr := []) (w1 := [(q, .inr (5, [.int th, .ref tx, .int (nI mz), .int fl, .int (bI it), .long al, .ref pt, .int (nI dg), .ref ot, .int (nI wr), .int (nI kz), .ref ka, .ref kd, .ref kp, .int (nI (mTwo X mz (ma + 1) false 0 23).2.1), .int (bI (mTwo X mz (ma + 1) false 0 23).2.2)])), (tx, .inl (c1, 256, .inl X))]) (va_runV (As := [.int 0, .int 23]) (rest := [.int 3600]) ⟨hx, hb, hml, hown, hts⟩ (m_two l dC dI st H.size q th tx mz fl it al pt dg ot wr kz ka kd kp (ma + 1) false c1 X 0 23 hz (by omega)) (cwV 2 hts (kwV kwm_243 kwm_244 kwm_245 kwm_203 kwm_242) rfl rfl rfl (by decide +kernel) ⟨Nat.le_of_ble_eq_true rfl, Nat.le_of_ble_eq_true rfl⟩) ⟨kc_blind, va_recv hKc hPc (ci := 5) (q0 := 0) rfl rfl, kc_pre hG hS hFc hKc hPc hDc⟩ rfl rfl hl.1 rfl (lv_room (Nat.le_of_ble_eq_true rfl)) dX5_readZone_78 ⟨Nat.le_of_ble_eq_true rfl, Nat.le_of_ble_eq_true rfl⟩) hP hD hS hFc [0, 1] [] rfl rfl (by decide) (by decide) (fun H locs hP hD hS => ?_)
            have hP : va_P (dC, dI) kcl [(q, .inr (5, [.int th, .ref tx, .int (nI mz), .int fl, .int (bI it), .long al, .ref pt, .int (nI dg), .ref ot, .int (nI wr), .int (nI kz), .ref ka, .ref kd, .ref kp, .int (nI (mTwo X mz (ma + 1) false 0 23).2.1), .int (bI (mTwo X mz (ma + 1) false 0 23).2.2)])), (tx, .inl (c1, 256, .inl X))] H := hP
            have hD : va_D A [(q, .inr (5, [.int th, .ref tx, .int (nI mz), .int fl, .int (bI it), .long al, .ref pt, .int (nI dg), .ref ot, .int (nI wr), .int (nI kz), .ref ka, .ref kd, .ref kp, .int (nI (mTwo X mz (ma + 1) false 0 23).2.1), .int (bI (mTwo X mz (ma + 1) false 0 23).2.2)])), (tx, .inl (c1, 256, .inl X))] := hD
            generalize e_78 : mTwo X mz (ma + 1) false 0 23 = v_78 at hP hD ⊢
            have hP : va_P (dC, dI) kcl [(q, .inr (5, [.int th, .ref tx, .int (nI mz), .int fl, .int (bI it), .long al, .ref pt, .int (nI dg), .ref ot, .int (nI wr), .int (nI kz), .ref ka, .ref kd, .ref kp, .int (nI v_78.2.1), .int (bI v_78.2.2)])), (tx, .inl (c1, 256, .inl X))] H := hP
            have hD : va_D A [(q, .inr (5, [.int th, .ref tx, .int (nI mz), .int fl, .int (bI it), .long al, .ref pt, .int (nI dg), .ref ot, .int (nI wr), .int (nI kz), .ref ka, .ref kd, .ref kp, .int (nI v_78.2.1), .int (bI v_78.2.2)])), (tx, .inl (c1, 256, .inl X))] := hD
            have hv78 : v_78.2.1 ≤ (ma + 1) + 2 := by rw [← e_78]; exact mTwo_at
            refine lv_imul hx hb dX5_readZone_81 ?_
            refine lv_istore_n (lv' := [(3, .int (3600 * v_78.1)), (2, .int (X ma)), (0, .ref q), (1, .int kind)]) hx hb dX5_readZone_82 rfl hl (by decide) rfl (fun ls hl => ?_)
            refine lv_iload_n hx hb dX5_readZone_83 rfl (lv_at hl 3 rfl) ?_
            refine lv_if_eq (tgt := 94) hx hb dX5_readZone_84 (by decide) (fun c_84 => ?_) (fun c_84 => ?_)
            · refine lv_iload_n hx hb dX5_readZone_94 rfl (lv_at hl 0 rfl) ?_
              refine lv_bipush (v := 60) hx hb dX5_readZone_95 (by decide) ?_
              refine lv_aload_n hx hb dX5_readZone_97 rfl (lv_at hl 2 rfl) ?_
              refine lv_iconst (v := 0) hx hb dX5_readZone_98 (by decide) ?_
              refine lv_bipush (v := 59) hx hb dX5_readZone_99 (by decide) ?_
              have hPc := hP.sub (ws' := [(q, .inr (5, [.int th, .ref tx, .int (nI mz), .int fl, .int (bI it), .long al, .ref pt, .int (nI dg), .ref ot, .int (nI wr), .int (nI kz), .ref ka, .ref kd, .ref kp, .int (nI v_78.2.1), .int (bI v_78.2.2)])), (tx, .inl (c1, 256, .inl X))]) [0, 1] rfl
              have hDc := hD.sub (ws' := [(q, .inr (5, [.int th, .ref tx, .int (nI mz), .int fl, .int (bI it), .long al, .ref pt, .int (nI dg), .ref ot, .int (nI wr), .int (nI kz), .ref ka, .ref kd, .ref kp, .int (nI v_78.2.1), .int (bI v_78.2.2)])), (tx, .inl (c1, 256, .inl X))]) [0, 1] (by decide) rfl
              have hKc := hK.sub (tys' := [(c1, .int)]) [0] rfl
              have hFc := va_free (wc := [(q, .inr (5, [.int th, .ref tx, .int (nI mz), .int fl, .int (bI it), .long al, .ref pt, .int (nI dg), .ref ot, .int (nI wr), .int (nI kz), .ref ka, .ref kd, .ref kp, .int (nI v_78.2.1), .int (bI v_78.2.2)])), (tx, .inl (c1, 256, .inl X))]) hD hS hA [0, 1] rfl
              refine kc_calli (val := (mTwo X mz v_78.2.1 v_78.2.2 0 59).1) (wr := []) (w1 := [(q, .inr (5, [.int th, .ref tx, .int (nI mz), .int fl, .int (bI it), .long al, .ref pt, .int (nI dg), .ref ot, .int (nI wr), .int (nI kz), .ref ka, .ref kd, .ref kp, .int (nI (mTwo X mz v_78.2.1 v_78.2.2 0 59).2.1), .int (bI (mTwo X mz v_78.2.1 v_78.2.2 0 59).2.2)])), (tx, .inl (c1, 256, .inl X))]) (va_runV (As := [.int 0, .int 59]) (rest := [.int 60, .int (3600 * v_78.1)]) ⟨hx, hb, hml, hown, hts⟩ (m_two l dC dI st H.size q th tx mz fl it al pt dg ot wr kz ka kd kp v_78.2.1 v_78.2.2 c1 X 0 59 hz (by omega)) (cwV 2 hts (kwV kwm_243 kwm_244 kwm_245 kwm_203 kwm_242) rfl rfl rfl (by decide +kernel) ⟨Nat.le_of_ble_eq_true rfl, Nat.le_of_ble_eq_true rfl⟩) ⟨kc_blind, va_recv hKc hPc (ci := 5) (q0 := 0) rfl rfl, kc_pre hG hS hFc hKc hPc hDc⟩ rfl rfl hl.1 rfl (lv_room (Nat.le_of_ble_eq_true rfl)) dX5_readZone_101 ⟨Nat.le_of_ble_eq_true rfl, Nat.le_of_ble_eq_true rfl⟩) hP hD hS hFc [0, 1] [] rfl rfl (by decide) (by decide) (fun H locs hP hD hS => ?_)
              have hP : va_P (dC, dI) kcl [(q, .inr (5, [.int th, .ref tx, .int (nI mz), .int fl, .int (bI it), .long al, .ref pt, .int (nI dg), .ref ot, .int (nI wr), .int (nI kz), .ref ka, .ref kd, .ref kp, .int (nI (mTwo X mz v_78.2.1 v_78.2.2 0 59).2.1), .int (bI (mTwo X mz v_78.2.1 v_78.2.2 0 59).2.2)])), (tx, .inl (c1, 256, .inl X))] H := hP
              have hD : va_D A [(q, .inr (5, [.int th, .ref tx, .int (nI mz), .int fl, .int (bI it), .long al, .ref pt, .int (nI dg), .ref ot, .int (nI wr), .int (nI kz), .ref ka, .ref kd, .ref kp, .int (nI (mTwo X mz v_78.2.1 v_78.2.2 0 59).2.1), .int (bI (mTwo X mz v_78.2.1 v_78.2.2 0 59).2.2)])), (tx, .inl (c1, 256, .inl X))] := hD
              generalize e_101 : mTwo X mz v_78.2.1 v_78.2.2 0 59 = v_101 at hP hD ⊢
              have hP : va_P (dC, dI) kcl [(q, .inr (5, [.int th, .ref tx, .int (nI mz), .int fl, .int (bI it), .long al, .ref pt, .int (nI dg), .ref ot, .int (nI wr), .int (nI kz), .ref ka, .ref kd, .ref kp, .int (nI v_101.2.1), .int (bI v_101.2.2)])), (tx, .inl (c1, 256, .inl X))] H := hP
              have hD : va_D A [(q, .inr (5, [.int th, .ref tx, .int (nI mz), .int fl, .int (bI it), .long al, .ref pt, .int (nI dg), .ref ot, .int (nI wr), .int (nI kz), .ref ka, .ref kd, .ref kp, .int (nI v_101.2.1), .int (bI v_101.2.2)])), (tx, .inl (c1, 256, .inl X))] := hD
              have hv101 : v_101.2.1 ≤ v_78.2.1 + 2 := by rw [← e_101]; exact mTwo_at
              refine lv_imul hx hb dX5_readZone_104 ?_
              refine lv_iadd hx hb dX5_readZone_105 ?_
              refine lv_istore_n (lv' := [(3, .int ((3600 * v_78.1) + (60 * v_101.1))), (2, .int (X ma)), (0, .ref q), (1, .int kind)]) hx hb dX5_readZone_106 rfl hl (by decide) rfl (fun ls hl => ?_)
              refine lv_iload_n hx hb dX5_readZone_107 rfl (lv_at hl 1 rfl) ?_
              refine lv_bipush (v := 43) hx hb dX5_readZone_108 (by decide) ?_
              refine lv_icmp_ne (tgt := 117) hx hb dX5_readZone_110 (by decide) (fun c_110 => ?_) (fun c_110 => ?_)
              · refine lv_iconst (v := 0) hx hb dX5_readZone_117 (by decide) ?_
                refine lv_iload_n hx hb dX5_readZone_118 rfl (lv_at hl 0 rfl) ?_
                refine lv_isub hx hb dX5_readZone_119 ?_
                have hF9 : mZone X mz ma wg kind = (0 - ((3600 * v_78.1) + (60 * v_101.1)), v_101.2.1, v_101.2.2) := by
                  subst e_101
                  subst e_78
                  first | (simp only [mZone, if_neg c_8, if_neg c_38, if_pos c_48, if_neg c_54, if_pos c_60, if_pos c_84]; done) | rfl
                have hP9 : va_P (dC, dI) kcl [(q, .inr (5, [.int th, .ref tx, .int (nI mz), .int fl, .int (bI it), .long al, .ref pt, .int (nI dg), .ref ot, .int (nI wr), .int (nI kz), .ref ka, .ref kd, .ref kp, .int (nI (mZone X mz ma wg kind).2.1), .int (bI (mZone X mz ma wg kind).2.2)])), (tx, .inl (c1, 256, .inl X))] H := by
                  try rw [hF9]
                  exact hP.sub [0, 1] rfl
                have hD9 : va_D A [(q, .inr (5, [.int th, .ref tx, .int (nI mz), .int fl, .int (bI it), .long al, .ref pt, .int (nI dg), .ref ot, .int (nI wr), .int (nI kz), .ref ka, .ref kd, .ref kp, .int (nI (mZone X mz ma wg kind).2.1), .int (bI (mZone X mz ma wg kind).2.2)])), (tx, .inl (c1, 256, .inl X))] := by
                  try rw [hF9]
                  exact hD.sub [0, 1] (by decide) rfl
                have hv9 : 0 - ((3600 * v_78.1) + (60 * v_101.1)) = (mZone X mz ma wg kind).1 := by
                  try rw [hF9]
                  try rfl
                exact kc_iret hx hb hr hlocks hv9 hP9 hD9 hS dX5_readZone_120
              · exact absurd c_110 c_54
            · refine lv_aload_n hx hb dX5_readZone_87 rfl (lv_at hl 2 rfl) ?_
              have hPc := hP.sub (ws' := [(q, .inr (5, [.int th, .ref tx, .int (nI mz), .int fl, .int (bI it), .long al, .ref pt, .int (nI dg), .ref ot, .int (nI wr), .int (nI kz), .ref ka, .ref kd, .ref kp, .int (nI v_78.2.1), .int (bI v_78.2.2)])), (tx, .inl (c1, 256, .inl X))]) [0, 1] rfl
              have hDc := hD.sub (ws' := [(q, .inr (5, [.int th, .ref tx, .int (nI mz), .int fl, .int (bI it), .long al, .ref pt, .int (nI dg), .ref ot, .int (nI wr), .int (nI kz), .ref ka, .ref kd, .ref kp, .int (nI v_78.2.1), .int (bI v_78.2.2)])), (tx, .inl (c1, 256, .inl X))]) [0, 1] (by decide) rfl
              have hKc := hK.sub (tys' := [(c1, .int)]) [0] rfl
              have hFc := va_free (wc := [(q, .inr (5, [.int th, .ref tx, .int (nI mz), .int fl, .int (bI it), .long al, .ref pt, .int (nI dg), .ref ot, .int (nI wr), .int (nI kz), .ref ka, .ref kd, .ref kp, .int (nI v_78.2.1), .int (bI v_78.2.2)])), (tx, .inl (c1, 256, .inl X))]) hD hS hA [0, 1] rfl
              refine kc_callSi (val := bI (mDig X mz v_78.2.1)) (va_runV (As := []) (rest := []) ⟨hx, hb, hml, hown, hts⟩ (m_isDigit l dC dI st H.size q th tx mz fl it al pt dg ot wr kz ka kd kp v_78.2.1 v_78.2.2 c1 X hz (by omega)) (cwV 0 hts (kwV kwm_228 kwm_229 kwm_230 kwm_203 kwm_227) rfl rfl rfl (by decide +kernel) ⟨Nat.le_of_ble_eq_true rfl, Nat.le_of_ble_eq_true rfl⟩) ⟨kc_blind, va_recv hKc hPc (ci := 5) (q0 := 0) rfl rfl, kc_pre hG hS hFc hKc hPc hDc⟩ rfl rfl hl.1 rfl (lv_room (Nat.le_of_ble_eq_true rfl)) dX5_readZone_88 ⟨Nat.le_of_ble_eq_true rfl, Nat.le_of_ble_eq_true rfl⟩) ?_
              refine lv_if_eq (tgt := 107) hx hb dX5_readZone_91 (by decide) (fun c_91 => ?_) (fun c_91 => ?_)
              · refine lv_iload_n hx hb dX5_readZone_107 rfl (lv_at hl 1 rfl) ?_
                refine lv_bipush (v := 43) hx hb dX5_readZone_108 (by decide) ?_
                refine lv_icmp_ne (tgt := 117) hx hb dX5_readZone_110 (by decide) (fun c_110 => ?_) (fun c_110 => ?_)
                · refine lv_iconst (v := 0) hx hb dX5_readZone_117 (by decide) ?_
                  refine lv_iload_n hx hb dX5_readZone_118 rfl (lv_at hl 0 rfl) ?_
                  refine lv_isub hx hb dX5_readZone_119 ?_
                  have hF9 : mZone X mz ma wg kind = (0 - (3600 * v_78.1), v_78.2.1, v_78.2.2) := by
                    subst e_78
                    first | (simp only [mZone, if_neg c_8, if_neg c_38, if_pos c_48, if_neg c_54, if_pos c_60, if_neg c_84, if_pos c_91]; done) | rfl
                  have hP9 : va_P (dC, dI) kcl [(q, .inr (5, [.int th, .ref tx, .int (nI mz), .int fl, .int (bI it), .long al, .ref pt, .int (nI dg), .ref ot, .int (nI wr), .int (nI kz), .ref ka, .ref kd, .ref kp, .int (nI (mZone X mz ma wg kind).2.1), .int (bI (mZone X mz ma wg kind).2.2)])), (tx, .inl (c1, 256, .inl X))] H := by
                    try rw [hF9]
                    exact hP.sub [0, 1] rfl
                  have hD9 : va_D A [(q, .inr (5, [.int th, .ref tx, .int (nI mz), .int fl, .int (bI it), .long al, .ref pt, .int (nI dg), .ref ot, .int (nI wr), .int (nI kz), .ref ka, .ref kd, .ref kp, .int (nI (mZone X mz ma wg kind).2.1), .int (bI (mZone X mz ma wg kind).2.2)])), (tx, .inl (c1, 256, .inl X))] := by
                    try rw [hF9]
                    exact hD.sub [0, 1] (by decide) rfl
                  have hv9 : 0 - (3600 * v_78.1) = (mZone X mz ma wg kind).1 := by
                    try rw [hF9]
                    try rfl
                  exact kc_iret hx hb hr hlocks hv9 hP9 hD9 hS dX5_readZone_120
                · exact absurd c_110 c_54
              · refine lv_iload_n hx hb dX5_readZone_94 rfl (lv_at hl 0 rfl) ?_
                refine lv_bipush (v := 60) hx hb dX5_readZone_95 (by decide) ?_
                refine lv_aload_n hx hb dX5_readZone_97 rfl (lv_at hl 2 rfl) ?_
                refine lv_iconst (v := 0) hx hb dX5_readZone_98 (by decide) ?_
                refine lv_bipush (v := 59) hx hb dX5_readZone_99 (by decide) ?_
                have hPc := hP.sub (ws' := [(q, .inr (5, [.int th, .ref tx, .int (nI mz), .int fl, .int (bI it), .long al, .ref pt, .int (nI dg), .ref ot, .int (nI wr), .int (nI kz), .ref ka, .ref kd, .ref kp, .int (nI v_78.2.1), .int (bI v_78.2.2)])), (tx, .inl (c1, 256, .inl X))]) [0, 1] rfl
                have hDc := hD.sub (ws' := [(q, .inr (5, [.int th, .ref tx, .int (nI mz), .int fl, .int (bI it), .long al, .ref pt, .int (nI dg), .ref ot, .int (nI wr), .int (nI kz), .ref ka, .ref kd, .ref kp, .int (nI v_78.2.1), .int (bI v_78.2.2)])), (tx, .inl (c1, 256, .inl X))]) [0, 1] (by decide) rfl
                have hKc := hK.sub (tys' := [(c1, .int)]) [0] rfl
                have hFc := va_free (wc := [(q, .inr (5, [.int th, .ref tx, .int (nI mz), .int fl, .int (bI it), .long al, .ref pt, .int (nI dg), .ref ot, .int (nI wr), .int (nI kz), .ref ka, .ref kd, .ref kp, .int (nI v_78.2.1), .int (bI v_78.2.2)])), (tx, .inl (c1, 256, .inl X))]) hD hS hA [0, 1] rfl
                refine kc_calli (val := (mTwo X mz v_78.2.1 v_78.2.2 0 59).1) (wr := []) (w1 := [(q, .inr (5, [.int th, .ref tx, .int (nI mz), .int fl, .int (bI it), .long al, .ref pt, .int (nI dg), .ref ot, .int (nI wr), .int (nI kz), .ref ka, .ref kd, .ref kp, .int (nI (mTwo X mz v_78.2.1 v_78.2.2 0 59).2.1), .int (bI (mTwo X mz v_78.2.1 v_78.2.2 0 59).2.2)])), (tx, .inl (c1, 256, .inl X))]) (va_runV (As := [.int 0, .int 59]) (rest := [.int 60, .int (3600 * v_78.1)]) ⟨hx, hb, hml, hown, hts⟩ (m_two l dC dI st H.size q th tx mz fl it al pt dg ot wr kz ka kd kp v_78.2.1 v_78.2.2 c1 X 0 59 hz (by omega)) (cwV 2 hts (kwV kwm_243 kwm_244 kwm_245 kwm_203 kwm_242) rfl rfl rfl (by decide +kernel) ⟨Nat.le_of_ble_eq_true rfl, Nat.le_of_ble_eq_true rfl⟩) ⟨kc_blind, va_recv hKc hPc (ci := 5) (q0 := 0) rfl rfl, kc_pre hG hS hFc hKc hPc hDc⟩ rfl rfl hl.1 rfl (lv_room (Nat.le_of_ble_eq_true rfl)) dX5_readZone_101 ⟨Nat.le_of_ble_eq_true rfl, Nat.le_of_ble_eq_true rfl⟩) hP hD hS hFc [0, 1] [] rfl rfl (by decide) (by decide) (fun H locs hP hD hS => ?_)
                have hP : va_P (dC, dI) kcl [(q, .inr (5, [.int th, .ref tx, .int (nI mz), .int fl, .int (bI it), .long al, .ref pt, .int (nI dg), .ref ot, .int (nI wr), .int (nI kz), .ref ka, .ref kd, .ref kp, .int (nI (mTwo X mz v_78.2.1 v_78.2.2 0 59).2.1), .int (bI (mTwo X mz v_78.2.1 v_78.2.2 0 59).2.2)])), (tx, .inl (c1, 256, .inl X))] H := hP
                have hD : va_D A [(q, .inr (5, [.int th, .ref tx, .int (nI mz), .int fl, .int (bI it), .long al, .ref pt, .int (nI dg), .ref ot, .int (nI wr), .int (nI kz), .ref ka, .ref kd, .ref kp, .int (nI (mTwo X mz v_78.2.1 v_78.2.2 0 59).2.1), .int (bI (mTwo X mz v_78.2.1 v_78.2.2 0 59).2.2)])), (tx, .inl (c1, 256, .inl X))] := hD
                generalize e_101 : mTwo X mz v_78.2.1 v_78.2.2 0 59 = v_101 at hP hD ⊢
                have hP : va_P (dC, dI) kcl [(q, .inr (5, [.int th, .ref tx, .int (nI mz), .int fl, .int (bI it), .long al, .ref pt, .int (nI dg), .ref ot, .int (nI wr), .int (nI kz), .ref ka, .ref kd, .ref kp, .int (nI v_101.2.1), .int (bI v_101.2.2)])), (tx, .inl (c1, 256, .inl X))] H := hP
                have hD : va_D A [(q, .inr (5, [.int th, .ref tx, .int (nI mz), .int fl, .int (bI it), .long al, .ref pt, .int (nI dg), .ref ot, .int (nI wr), .int (nI kz), .ref ka, .ref kd, .ref kp, .int (nI v_101.2.1), .int (bI v_101.2.2)])), (tx, .inl (c1, 256, .inl X))] := hD
                have hv101 : v_101.2.1 ≤ v_78.2.1 + 2 := by rw [← e_101]; exact mTwo_at
                refine lv_imul hx hb dX5_readZone_104 ?_
                refine lv_iadd hx hb dX5_readZone_105 ?_
                refine lv_istore_n (lv' := [(3, .int ((3600 * v_78.1) + (60 * v_101.1))), (2, .int (X ma)), (0, .ref q), (1, .int kind)]) hx hb dX5_readZone_106 rfl hl (by decide) rfl (fun ls hl => ?_)
                refine lv_iload_n hx hb dX5_readZone_107 rfl (lv_at hl 1 rfl) ?_
                refine lv_bipush (v := 43) hx hb dX5_readZone_108 (by decide) ?_
                refine lv_icmp_ne (tgt := 117) hx hb dX5_readZone_110 (by decide) (fun c_110 => ?_) (fun c_110 => ?_)
                · refine lv_iconst (v := 0) hx hb dX5_readZone_117 (by decide) ?_
                  refine lv_iload_n hx hb dX5_readZone_118 rfl (lv_at hl 0 rfl) ?_
                  refine lv_isub hx hb dX5_readZone_119 ?_
                  have hF9 : mZone X mz ma wg kind = (0 - ((3600 * v_78.1) + (60 * v_101.1)), v_101.2.1, v_101.2.2) := by
                    subst e_101
                    subst e_78
                    first | (simp only [mZone, if_neg c_8, if_neg c_38, if_pos c_48, if_neg c_54, if_pos c_60, if_neg c_84, if_neg c_91]; done) | rfl
                  have hP9 : va_P (dC, dI) kcl [(q, .inr (5, [.int th, .ref tx, .int (nI mz), .int fl, .int (bI it), .long al, .ref pt, .int (nI dg), .ref ot, .int (nI wr), .int (nI kz), .ref ka, .ref kd, .ref kp, .int (nI (mZone X mz ma wg kind).2.1), .int (bI (mZone X mz ma wg kind).2.2)])), (tx, .inl (c1, 256, .inl X))] H := by
                    try rw [hF9]
                    exact hP.sub [0, 1] rfl
                  have hD9 : va_D A [(q, .inr (5, [.int th, .ref tx, .int (nI mz), .int fl, .int (bI it), .long al, .ref pt, .int (nI dg), .ref ot, .int (nI wr), .int (nI kz), .ref ka, .ref kd, .ref kp, .int (nI (mZone X mz ma wg kind).2.1), .int (bI (mZone X mz ma wg kind).2.2)])), (tx, .inl (c1, 256, .inl X))] := by
                    try rw [hF9]
                    exact hD.sub [0, 1] (by decide) rfl
                  have hv9 : 0 - ((3600 * v_78.1) + (60 * v_101.1)) = (mZone X mz ma wg kind).1 := by
                    try rw [hF9]
                    try rfl
                  exact kc_iret hx hb hr hlocks hv9 hP9 hD9 hS dX5_readZone_120
                · exact absurd c_110 c_54
          · refine lv_iconst (v := 1) hx hb dX5_readZone_63 (by decide) ?_
            refine lv_goto (tgt := 68) hx hb dX5_readZone_64 (by decide) ?_
            refine va_put (D := (dC, dI)) (ci := 5) (v := .int 1) (ty := .boolean) (C := RX5) (T := TX5) (N := 16) hx hb hts kin_5 tyX5 tyX5_ok nmX5 hown hK hP hD hS 0 rfl rfl 15 (by decide) (hts _ (kcm kwm_235)) (fun _ h9 => h9) rfl (by decide +kernel) rfl rfl (Nat.le_of_ble_eq_true rfl) dX5_readZone_68 (fun H locs hP hD hS => ?_)
            have hP : va_P (dC, dI) kcl [(q, .inr (5, [.int th, .ref tx, .int (nI mz), .int fl, .int (bI it), .long al, .ref pt, .int (nI dg), .ref ot, .int (nI wr), .int (nI kz), .ref ka, .ref kd, .ref kp, .int (nI (ma + 1)), .int (bI true)])), (tx, .inl (c1, 256, .inl X))] H := hP
            have hD : va_D A [(q, .inr (5, [.int th, .ref tx, .int (nI mz), .int fl, .int (bI it), .long al, .ref pt, .int (nI dg), .ref ot, .int (nI wr), .int (nI kz), .ref ka, .ref kd, .ref kp, .int (nI (ma + 1)), .int (bI true)])), (tx, .inl (c1, 256, .inl X))] := hD
            refine lv_sipush (v := 3600) hx hb dX5_readZone_71 (by decide) ?_
            refine lv_aload_n hx hb dX5_readZone_74 rfl (lv_at hl 1 rfl) ?_
            refine lv_iconst (v := 0) hx hb dX5_readZone_75 (by decide) ?_
            refine lv_bipush (v := 23) hx hb dX5_readZone_76 (by decide) ?_
            have hPc := hP.sub (ws' := [(q, .inr (5, [.int th, .ref tx, .int (nI mz), .int fl, .int (bI it), .long al, .ref pt, .int (nI dg), .ref ot, .int (nI wr), .int (nI kz), .ref ka, .ref kd, .ref kp, .int (nI (ma + 1)), .int (bI true)])), (tx, .inl (c1, 256, .inl X))]) [0, 1] rfl
            have hDc := hD.sub (ws' := [(q, .inr (5, [.int th, .ref tx, .int (nI mz), .int fl, .int (bI it), .long al, .ref pt, .int (nI dg), .ref ot, .int (nI wr), .int (nI kz), .ref ka, .ref kd, .ref kp, .int (nI (ma + 1)), .int (bI true)])), (tx, .inl (c1, 256, .inl X))]) [0, 1] (by decide) rfl
            have hKc := hK.sub (tys' := [(c1, .int)]) [0] rfl
            have hFc := va_free (wc := [(q, .inr (5, [.int th, .ref tx, .int (nI mz), .int fl, .int (bI it), .long al, .ref pt, .int (nI dg), .ref ot, .int (nI wr), .int (nI kz), .ref ka, .ref kd, .ref kp, .int (nI (ma + 1)), .int (bI true)])), (tx, .inl (c1, 256, .inl X))]) hD hS hA [0, 1] rfl
            refine kc_calli (val := (mTwo X mz (ma + 1) true 0 23).1) (wr := []) (w1 := [(q, .inr (5, [.int th, .ref tx, .int (nI mz), .int fl, .int (bI it), .long al, .ref pt, .int (nI dg), .ref ot, .int (nI wr), .int (nI kz), .ref ka, .ref kd, .ref kp, .int (nI (mTwo X mz (ma + 1) true 0 23).2.1), .int (bI (mTwo X mz (ma + 1) true 0 23).2.2)])), (tx, .inl (c1, 256, .inl X))]) (va_runV (As := [.int 0, .int 23]) (rest := [.int 3600]) ⟨hx, hb, hml, hown, hts⟩ (m_two l dC dI st H.size q th tx mz fl it al pt dg ot wr kz ka kd kp (ma + 1) true c1 X 0 23 hz (by omega)) (cwV 2 hts (kwV kwm_243 kwm_244 kwm_245 kwm_203 kwm_242) rfl rfl rfl (by decide +kernel) ⟨Nat.le_of_ble_eq_true rfl, Nat.le_of_ble_eq_true rfl⟩) ⟨kc_blind, va_recv hKc hPc (ci := 5) (q0 := 0) rfl rfl, kc_pre hG hS hFc hKc hPc hDc⟩ rfl rfl hl.1 rfl (lv_room (Nat.le_of_ble_eq_true rfl)) dX5_readZone_78 ⟨Nat.le_of_ble_eq_true rfl, Nat.le_of_ble_eq_true rfl⟩) hP hD hS hFc [0, 1] [] rfl rfl (by decide) (by decide) (fun H locs hP hD hS => ?_)
            have hP : va_P (dC, dI) kcl [(q, .inr (5, [.int th, .ref tx, .int (nI mz), .int fl, .int (bI it), .long al, .ref pt, .int (nI dg), .ref ot, .int (nI wr), .int (nI kz), .ref ka, .ref kd, .ref kp, .int (nI (mTwo X mz (ma + 1) true 0 23).2.1), .int (bI (mTwo X mz (ma + 1) true 0 23).2.2)])), (tx, .inl (c1, 256, .inl X))] H := hP
            have hD : va_D A [(q, .inr (5, [.int th, .ref tx, .int (nI mz), .int fl, .int (bI it), .long al, .ref pt, .int (nI dg), .ref ot, .int (nI wr), .int (nI kz), .ref ka, .ref kd, .ref kp, .int (nI (mTwo X mz (ma + 1) true 0 23).2.1), .int (bI (mTwo X mz (ma + 1) true 0 23).2.2)])), (tx, .inl (c1, 256, .inl X))] := hD
            generalize e_78 : mTwo X mz (ma + 1) true 0 23 = v_78 at hP hD ⊢
            have hP : va_P (dC, dI) kcl [(q, .inr (5, [.int th, .ref tx, .int (nI mz), .int fl, .int (bI it), .long al, .ref pt, .int (nI dg), .ref ot, .int (nI wr), .int (nI kz), .ref ka, .ref kd, .ref kp, .int (nI v_78.2.1), .int (bI v_78.2.2)])), (tx, .inl (c1, 256, .inl X))] H := hP
            have hD : va_D A [(q, .inr (5, [.int th, .ref tx, .int (nI mz), .int fl, .int (bI it), .long al, .ref pt, .int (nI dg), .ref ot, .int (nI wr), .int (nI kz), .ref ka, .ref kd, .ref kp, .int (nI v_78.2.1), .int (bI v_78.2.2)])), (tx, .inl (c1, 256, .inl X))] := hD
            have hv78 : v_78.2.1 ≤ (ma + 1) + 2 := by rw [← e_78]; exact mTwo_at
            refine lv_imul hx hb dX5_readZone_81 ?_
            refine lv_istore_n (lv' := [(3, .int (3600 * v_78.1)), (2, .int (X ma)), (0, .ref q), (1, .int kind)]) hx hb dX5_readZone_82 rfl hl (by decide) rfl (fun ls hl => ?_)
            refine lv_iload_n hx hb dX5_readZone_83 rfl (lv_at hl 3 rfl) ?_
            refine lv_if_eq (tgt := 94) hx hb dX5_readZone_84 (by decide) (fun c_84 => ?_) (fun c_84 => ?_)
            · refine lv_iload_n hx hb dX5_readZone_94 rfl (lv_at hl 0 rfl) ?_
              refine lv_bipush (v := 60) hx hb dX5_readZone_95 (by decide) ?_
              refine lv_aload_n hx hb dX5_readZone_97 rfl (lv_at hl 2 rfl) ?_
              refine lv_iconst (v := 0) hx hb dX5_readZone_98 (by decide) ?_
              refine lv_bipush (v := 59) hx hb dX5_readZone_99 (by decide) ?_
              have hPc := hP.sub (ws' := [(q, .inr (5, [.int th, .ref tx, .int (nI mz), .int fl, .int (bI it), .long al, .ref pt, .int (nI dg), .ref ot, .int (nI wr), .int (nI kz), .ref ka, .ref kd, .ref kp, .int (nI v_78.2.1), .int (bI v_78.2.2)])), (tx, .inl (c1, 256, .inl X))]) [0, 1] rfl
              have hDc := hD.sub (ws' := [(q, .inr (5, [.int th, .ref tx, .int (nI mz), .int fl, .int (bI it), .long al, .ref pt, .int (nI dg), .ref ot, .int (nI wr), .int (nI kz), .ref ka, .ref kd, .ref kp, .int (nI v_78.2.1), .int (bI v_78.2.2)])), (tx, .inl (c1, 256, .inl X))]) [0, 1] (by decide) rfl
              have hKc := hK.sub (tys' := [(c1, .int)]) [0] rfl
              have hFc := va_free (wc := [(q, .inr (5, [.int th, .ref tx, .int (nI mz), .int fl, .int (bI it), .long al, .ref pt, .int (nI dg), .ref ot, .int (nI wr), .int (nI kz), .ref ka, .ref kd, .ref kp, .int (nI v_78.2.1), .int (bI v_78.2.2)])), (tx, .inl (c1, 256, .inl X))]) hD hS hA [0, 1] rfl
              refine kc_calli (val := (mTwo X mz v_78.2.1 v_78.2.2 0 59).1) (wr := []) (w1 := [(q, .inr (5, [.int th, .ref tx, .int (nI mz), .int fl, .int (bI it), .long al, .ref pt, .int (nI dg), .ref ot, .int (nI wr), .int (nI kz), .ref ka, .ref kd, .ref kp, .int (nI (mTwo X mz v_78.2.1 v_78.2.2 0 59).2.1), .int (bI (mTwo X mz v_78.2.1 v_78.2.2 0 59).2.2)])), (tx, .inl (c1, 256, .inl X))]) (va_runV (As := [.int 0, .int 59]) (rest := [.int 60, .int (3600 * v_78.1)]) ⟨hx, hb, hml, hown, hts⟩ (m_two l dC dI st H.size q th tx mz fl it al pt dg ot wr kz ka kd kp v_78.2.1 v_78.2.2 c1 X 0 59 hz (by omega)) (cwV 2 hts (kwV kwm_243 kwm_244 kwm_245 kwm_203 kwm_242) rfl rfl rfl (by decide +kernel) ⟨Nat.le_of_ble_eq_true rfl, Nat.le_of_ble_eq_true rfl⟩) ⟨kc_blind, va_recv hKc hPc (ci := 5) (q0 := 0) rfl rfl, kc_pre hG hS hFc hKc hPc hDc⟩ rfl rfl hl.1 rfl (lv_room (Nat.le_of_ble_eq_true rfl)) dX5_readZone_101 ⟨Nat.le_of_ble_eq_true rfl, Nat.le_of_ble_eq_true rfl⟩) hP hD hS hFc [0, 1] [] rfl rfl (by decide) (by decide) (fun H locs hP hD hS => ?_)
              have hP : va_P (dC, dI) kcl [(q, .inr (5, [.int th, .ref tx, .int (nI mz), .int fl, .int (bI it), .long al, .ref pt, .int (nI dg), .ref ot, .int (nI wr), .int (nI kz), .ref ka, .ref kd, .ref kp, .int (nI (mTwo X mz v_78.2.1 v_78.2.2 0 59).2.1), .int (bI (mTwo X mz v_78.2.1 v_78.2.2 0 59).2.2)])), (tx, .inl (c1, 256, .inl X))] H := hP
              have hD : va_D A [(q, .inr (5, [.int th, .ref tx, .int (nI mz), .int fl, .int (bI it), .long al, .ref pt, .int (nI dg), .ref ot, .int (nI wr), .int (nI kz), .ref ka, .ref kd, .ref kp, .int (nI (mTwo X mz v_78.2.1 v_78.2.2 0 59).2.1), .int (bI (mTwo X mz v_78.2.1 v_78.2.2 0 59).2.2)])), (tx, .inl (c1, 256, .inl X))] := hD
              generalize e_101 : mTwo X mz v_78.2.1 v_78.2.2 0 59 = v_101 at hP hD ⊢
              have hP : va_P (dC, dI) kcl [(q, .inr (5, [.int th, .ref tx, .int (nI mz), .int fl, .int (bI it), .long al, .ref pt, .int (nI dg), .ref ot, .int (nI wr), .int (nI kz), .ref ka, .ref kd, .ref kp, .int (nI v_101.2.1), .int (bI v_101.2.2)])), (tx, .inl (c1, 256, .inl X))] H := hP
              have hD : va_D A [(q, .inr (5, [.int th, .ref tx, .int (nI mz), .int fl, .int (bI it), .long al, .ref pt, .int (nI dg), .ref ot, .int (nI wr), .int (nI kz), .ref ka, .ref kd, .ref kp, .int (nI v_101.2.1), .int (bI v_101.2.2)])), (tx, .inl (c1, 256, .inl X))] := hD
              have hv101 : v_101.2.1 ≤ v_78.2.1 + 2 := by rw [← e_101]; exact mTwo_at
              refine lv_imul hx hb dX5_readZone_104 ?_
              refine lv_iadd hx hb dX5_readZone_105 ?_
              refine lv_istore_n (lv' := [(3, .int ((3600 * v_78.1) + (60 * v_101.1))), (2, .int (X ma)), (0, .ref q), (1, .int kind)]) hx hb dX5_readZone_106 rfl hl (by decide) rfl (fun ls hl => ?_)
              refine lv_iload_n hx hb dX5_readZone_107 rfl (lv_at hl 1 rfl) ?_
              refine lv_bipush (v := 43) hx hb dX5_readZone_108 (by decide) ?_
              refine lv_icmp_ne (tgt := 117) hx hb dX5_readZone_110 (by decide) (fun c_110 => ?_) (fun c_110 => ?_)
              · refine lv_iconst (v := 0) hx hb dX5_readZone_117 (by decide) ?_
                refine lv_iload_n hx hb dX5_readZone_118 rfl (lv_at hl 0 rfl) ?_
                refine lv_isub hx hb dX5_readZone_119 ?_
                have hF9 : mZone X mz ma wg kind = (0 - ((3600 * v_78.1) + (60 * v_101.1)), v_101.2.1, v_101.2.2) := by
                  subst e_101
                  subst e_78
                  first | (simp only [mZone, if_neg c_8, if_neg c_38, if_pos c_48, if_neg c_54, if_neg c_60, if_pos c_84]; done) | rfl
                have hP9 : va_P (dC, dI) kcl [(q, .inr (5, [.int th, .ref tx, .int (nI mz), .int fl, .int (bI it), .long al, .ref pt, .int (nI dg), .ref ot, .int (nI wr), .int (nI kz), .ref ka, .ref kd, .ref kp, .int (nI (mZone X mz ma wg kind).2.1), .int (bI (mZone X mz ma wg kind).2.2)])), (tx, .inl (c1, 256, .inl X))] H := by
                  try rw [hF9]
                  exact hP.sub [0, 1] rfl
                have hD9 : va_D A [(q, .inr (5, [.int th, .ref tx, .int (nI mz), .int fl, .int (bI it), .long al, .ref pt, .int (nI dg), .ref ot, .int (nI wr), .int (nI kz), .ref ka, .ref kd, .ref kp, .int (nI (mZone X mz ma wg kind).2.1), .int (bI (mZone X mz ma wg kind).2.2)])), (tx, .inl (c1, 256, .inl X))] := by
                  try rw [hF9]
                  exact hD.sub [0, 1] (by decide) rfl
                have hv9 : 0 - ((3600 * v_78.1) + (60 * v_101.1)) = (mZone X mz ma wg kind).1 := by
                  try rw [hF9]
                  try rfl
                exact kc_iret hx hb hr hlocks hv9 hP9 hD9 hS dX5_readZone_120
              · exact absurd c_110 c_54
            · refine lv_aload_n hx hb dX5_readZone_87 rfl (lv_at hl 2 rfl) ?_
              have hPc := hP.sub (ws' := [(q, .inr (5, [.int th, .ref tx, .int (nI mz), .int fl, .int (bI it), .long al, .ref pt, .int (nI dg), .ref ot, .int (nI wr), .int (nI kz), .ref ka, .ref kd, .ref kp, .int (nI v_78.2.1), .int (bI v_78.2.2)])), (tx, .inl (c1, 256, .inl X))]) [0, 1] rfl
              have hDc := hD.sub (ws' := [(q, .inr (5, [.int th, .ref tx, .int (nI mz), .int fl, .int (bI it), .long al, .ref pt, .int (nI dg), .ref ot, .int (nI wr), .int (nI kz), .ref ka, .ref kd, .ref kp, .int (nI v_78.2.1), .int (bI v_78.2.2)])), (tx, .inl (c1, 256, .inl X))]) [0, 1] (by decide) rfl
              have hKc := hK.sub (tys' := [(c1, .int)]) [0] rfl
              have hFc := va_free (wc := [(q, .inr (5, [.int th, .ref tx, .int (nI mz), .int fl, .int (bI it), .long al, .ref pt, .int (nI dg), .ref ot, .int (nI wr), .int (nI kz), .ref ka, .ref kd, .ref kp, .int (nI v_78.2.1), .int (bI v_78.2.2)])), (tx, .inl (c1, 256, .inl X))]) hD hS hA [0, 1] rfl
              refine kc_callSi (val := bI (mDig X mz v_78.2.1)) (va_runV (As := []) (rest := []) ⟨hx, hb, hml, hown, hts⟩ (m_isDigit l dC dI st H.size q th tx mz fl it al pt dg ot wr kz ka kd kp v_78.2.1 v_78.2.2 c1 X hz (by omega)) (cwV 0 hts (kwV kwm_228 kwm_229 kwm_230 kwm_203 kwm_227) rfl rfl rfl (by decide +kernel) ⟨Nat.le_of_ble_eq_true rfl, Nat.le_of_ble_eq_true rfl⟩) ⟨kc_blind, va_recv hKc hPc (ci := 5) (q0 := 0) rfl rfl, kc_pre hG hS hFc hKc hPc hDc⟩ rfl rfl hl.1 rfl (lv_room (Nat.le_of_ble_eq_true rfl)) dX5_readZone_88 ⟨Nat.le_of_ble_eq_true rfl, Nat.le_of_ble_eq_true rfl⟩) ?_
              refine lv_if_eq (tgt := 107) hx hb dX5_readZone_91 (by decide) (fun c_91 => ?_) (fun c_91 => ?_)
              · refine lv_iload_n hx hb dX5_readZone_107 rfl (lv_at hl 1 rfl) ?_
                refine lv_bipush (v := 43) hx hb dX5_readZone_108 (by decide) ?_
                refine lv_icmp_ne (tgt := 117) hx hb dX5_readZone_110 (by decide) (fun c_110 => ?_) (fun c_110 => ?_)
                · refine lv_iconst (v := 0) hx hb dX5_readZone_117 (by decide) ?_
                  refine lv_iload_n hx hb dX5_readZone_118 rfl (lv_at hl 0 rfl) ?_
                  refine lv_isub hx hb dX5_readZone_119 ?_
                  have hF9 : mZone X mz ma wg kind = (0 - (3600 * v_78.1), v_78.2.1, v_78.2.2) := by
                    subst e_78
                    first | (simp only [mZone, if_neg c_8, if_neg c_38, if_pos c_48, if_neg c_54, if_neg c_60, if_neg c_84, if_pos c_91]; done) | rfl
                  have hP9 : va_P (dC, dI) kcl [(q, .inr (5, [.int th, .ref tx, .int (nI mz), .int fl, .int (bI it), .long al, .ref pt, .int (nI dg), .ref ot, .int (nI wr), .int (nI kz), .ref ka, .ref kd, .ref kp, .int (nI (mZone X mz ma wg kind).2.1), .int (bI (mZone X mz ma wg kind).2.2)])), (tx, .inl (c1, 256, .inl X))] H := by
                    try rw [hF9]
                    exact hP.sub [0, 1] rfl
                  have hD9 : va_D A [(q, .inr (5, [.int th, .ref tx, .int (nI mz), .int fl, .int (bI it), .long al, .ref pt, .int (nI dg), .ref ot, .int (nI wr), .int (nI kz), .ref ka, .ref kd, .ref kp, .int (nI (mZone X mz ma wg kind).2.1), .int (bI (mZone X mz ma wg kind).2.2)])), (tx, .inl (c1, 256, .inl X))] := by
                    try rw [hF9]
                    exact hD.sub [0, 1] (by decide) rfl
                  have hv9 : 0 - (3600 * v_78.1) = (mZone X mz ma wg kind).1 := by
                    try rw [hF9]
                    try rfl
                  exact kc_iret hx hb hr hlocks hv9 hP9 hD9 hS dX5_readZone_120
                · exact absurd c_110 c_54
              · refine lv_iload_n hx hb dX5_readZone_94 rfl (lv_at hl 0 rfl) ?_
                refine lv_bipush (v := 60) hx hb dX5_readZone_95 (by decide) ?_
                refine lv_aload_n hx hb dX5_readZone_97 rfl (lv_at hl 2 rfl) ?_
                refine lv_iconst (v := 0) hx hb dX5_readZone_98 (by decide) ?_
                refine lv_bipush (v := 59) hx hb dX5_readZone_99 (by decide) ?_
                have hPc := hP.sub (ws' := [(q, .inr (5, [.int th, .ref tx, .int (nI mz), .int fl, .int (bI it), .long al, .ref pt, .int (nI dg), .ref ot, .int (nI wr), .int (nI kz), .ref ka, .ref kd, .ref kp, .int (nI v_78.2.1), .int (bI v_78.2.2)])), (tx, .inl (c1, 256, .inl X))]) [0, 1] rfl
                have hDc := hD.sub (ws' := [(q, .inr (5, [.int th, .ref tx, .int (nI mz), .int fl, .int (bI it), .long al, .ref pt, .int (nI dg), .ref ot, .int (nI wr), .int (nI kz), .ref ka, .ref kd, .ref kp, .int (nI v_78.2.1), .int (bI v_78.2.2)])), (tx, .inl (c1, 256, .inl X))]) [0, 1] (by decide) rfl
                have hKc := hK.sub (tys' := [(c1, .int)]) [0] rfl
                have hFc := va_free (wc := [(q, .inr (5, [.int th, .ref tx, .int (nI mz), .int fl, .int (bI it), .long al, .ref pt, .int (nI dg), .ref ot, .int (nI wr), .int (nI kz), .ref ka, .ref kd, .ref kp, .int (nI v_78.2.1), .int (bI v_78.2.2)])), (tx, .inl (c1, 256, .inl X))]) hD hS hA [0, 1] rfl
                refine kc_calli (val := (mTwo X mz v_78.2.1 v_78.2.2 0 59).1) (wr := []) (w1 := [(q, .inr (5, [.int th, .ref tx, .int (nI mz), .int fl, .int (bI it), .long al, .ref pt, .int (nI dg), .ref ot, .int (nI wr), .int (nI kz), .ref ka, .ref kd, .ref kp, .int (nI (mTwo X mz v_78.2.1 v_78.2.2 0 59).2.1), .int (bI (mTwo X mz v_78.2.1 v_78.2.2 0 59).2.2)])), (tx, .inl (c1, 256, .inl X))]) (va_runV (As := [.int 0, .int 59]) (rest := [.int 60, .int (3600 * v_78.1)]) ⟨hx, hb, hml, hown, hts⟩ (m_two l dC dI st H.size q th tx mz fl it al pt dg ot wr kz ka kd kp v_78.2.1 v_78.2.2 c1 X 0 59 hz (by omega)) (cwV 2 hts (kwV kwm_243 kwm_244 kwm_245 kwm_203 kwm_242) rfl rfl rfl (by decide +kernel) ⟨Nat.le_of_ble_eq_true rfl, Nat.le_of_ble_eq_true rfl⟩) ⟨kc_blind, va_recv hKc hPc (ci := 5) (q0 := 0) rfl rfl, kc_pre hG hS hFc hKc hPc hDc⟩ rfl rfl hl.1 rfl (lv_room (Nat.le_of_ble_eq_true rfl)) dX5_readZone_101 ⟨Nat.le_of_ble_eq_true rfl, Nat.le_of_ble_eq_true rfl⟩) hP hD hS hFc [0, 1] [] rfl rfl (by decide) (by decide) (fun H locs hP hD hS => ?_)
                have hP : va_P (dC, dI) kcl [(q, .inr (5, [.int th, .ref tx, .int (nI mz), .int fl, .int (bI it), .long al, .ref pt, .int (nI dg), .ref ot, .int (nI wr), .int (nI kz), .ref ka, .ref kd, .ref kp, .int (nI (mTwo X mz v_78.2.1 v_78.2.2 0 59).2.1), .int (bI (mTwo X mz v_78.2.1 v_78.2.2 0 59).2.2)])), (tx, .inl (c1, 256, .inl X))] H := hP
                have hD : va_D A [(q, .inr (5, [.int th, .ref tx, .int (nI mz), .int fl, .int (bI it), .long al, .ref pt, .int (nI dg), .ref ot, .int (nI wr), .int (nI kz), .ref ka, .ref kd, .ref kp, .int (nI (mTwo X mz v_78.2.1 v_78.2.2 0 59).2.1), .int (bI (mTwo X mz v_78.2.1 v_78.2.2 0 59).2.2)])), (tx, .inl (c1, 256, .inl X))] := hD
                generalize e_101 : mTwo X mz v_78.2.1 v_78.2.2 0 59 = v_101 at hP hD ⊢
                have hP : va_P (dC, dI) kcl [(q, .inr (5, [.int th, .ref tx, .int (nI mz), .int fl, .int (bI it), .long al, .ref pt, .int (nI dg), .ref ot, .int (nI wr), .int (nI kz), .ref ka, .ref kd, .ref kp, .int (nI v_101.2.1), .int (bI v_101.2.2)])), (tx, .inl (c1, 256, .inl X))] H := hP
                have hD : va_D A [(q, .inr (5, [.int th, .ref tx, .int (nI mz), .int fl, .int (bI it), .long al, .ref pt, .int (nI dg), .ref ot, .int (nI wr), .int (nI kz), .ref ka, .ref kd, .ref kp, .int (nI v_101.2.1), .int (bI v_101.2.2)])), (tx, .inl (c1, 256, .inl X))] := hD
                have hv101 : v_101.2.1 ≤ v_78.2.1 + 2 := by rw [← e_101]; exact mTwo_at
                refine lv_imul hx hb dX5_readZone_104 ?_
                refine lv_iadd hx hb dX5_readZone_105 ?_
                refine lv_istore_n (lv' := [(3, .int ((3600 * v_78.1) + (60 * v_101.1))), (2, .int (X ma)), (0, .ref q), (1, .int kind)]) hx hb dX5_readZone_106 rfl hl (by decide) rfl (fun ls hl => ?_)
                refine lv_iload_n hx hb dX5_readZone_107 rfl (lv_at hl 1 rfl) ?_
                refine lv_bipush (v := 43) hx hb dX5_readZone_108 (by decide) ?_
                refine lv_icmp_ne (tgt := 117) hx hb dX5_readZone_110 (by decide) (fun c_110 => ?_) (fun c_110 => ?_)
                · refine lv_iconst (v := 0) hx hb dX5_readZone_117 (by decide) ?_
                  refine lv_iload_n hx hb dX5_readZone_118 rfl (lv_at hl 0 rfl) ?_
                  refine lv_isub hx hb dX5_readZone_119 ?_
                  have hF9 : mZone X mz ma wg kind = (0 - ((3600 * v_78.1) + (60 * v_101.1)), v_101.2.1, v_101.2.2) := by
                    subst e_101
                    subst e_78
                    first | (simp only [mZone, if_neg c_8, if_neg c_38, if_pos c_48, if_neg c_54, if_neg c_60, if_neg c_84, if_neg c_91]; done) | rfl
                  have hP9 : va_P (dC, dI) kcl [(q, .inr (5, [.int th, .ref tx, .int (nI mz), .int fl, .int (bI it), .long al, .ref pt, .int (nI dg), .ref ot, .int (nI wr), .int (nI kz), .ref ka, .ref kd, .ref kp, .int (nI (mZone X mz ma wg kind).2.1), .int (bI (mZone X mz ma wg kind).2.2)])), (tx, .inl (c1, 256, .inl X))] H := by
                    try rw [hF9]
                    exact hP.sub [0, 1] rfl
                  have hD9 : va_D A [(q, .inr (5, [.int th, .ref tx, .int (nI mz), .int fl, .int (bI it), .long al, .ref pt, .int (nI dg), .ref ot, .int (nI wr), .int (nI kz), .ref ka, .ref kd, .ref kp, .int (nI (mZone X mz ma wg kind).2.1), .int (bI (mZone X mz ma wg kind).2.2)])), (tx, .inl (c1, 256, .inl X))] := by
                    try rw [hF9]
                    exact hD.sub [0, 1] (by decide) rfl
                  have hv9 : 0 - ((3600 * v_78.1) + (60 * v_101.1)) = (mZone X mz ma wg kind).1 := by
                    try rw [hF9]
                    try rfl
                  exact kc_iret hx hb hr hlocks hv9 hP9 hD9 hS dX5_readZone_120
                · exact absurd c_110 c_54
    · refine lv_iconst (v := 0) hx hb dX5_readZone_41 (by decide) ?_
      have hF9 : mZone X mz ma wg kind = (0, (ma + 1), wg) := by
        first | (simp only [mZone, if_neg c_8, if_pos c_38]; done) | rfl
      have hP9 : va_P (dC, dI) kcl [(q, .inr (5, [.int th, .ref tx, .int (nI mz), .int fl, .int (bI it), .long al, .ref pt, .int (nI dg), .ref ot, .int (nI wr), .int (nI kz), .ref ka, .ref kd, .ref kp, .int (nI (mZone X mz ma wg kind).2.1), .int (bI (mZone X mz ma wg kind).2.2)])), (tx, .inl (c1, 256, .inl X))] H := by
        try rw [hF9]
        exact hP.sub [0, 1] rfl
      have hD9 : va_D A [(q, .inr (5, [.int th, .ref tx, .int (nI mz), .int fl, .int (bI it), .long al, .ref pt, .int (nI dg), .ref ot, .int (nI wr), .int (nI kz), .ref ka, .ref kd, .ref kp, .int (nI (mZone X mz ma wg kind).2.1), .int (bI (mZone X mz ma wg kind).2.2)])), (tx, .inl (c1, 256, .inl X))] := by
        try rw [hF9]
        exact hD.sub [0, 1] (by decide) rfl
      have hv9 : (0 : Int32) = (mZone X mz ma wg kind).1 := by
        try rw [hF9]
        try rfl
      exact kc_iret hx hb hr hlocks hv9 hP9 hD9 hS dX5_readZone_42
