abbrev cX5_readPart : ByteArray := prog_7_method_17_code
def yX5_readPart : MethodName := ⟨RX5, "readPart", "(I)I"⟩
abbrev wsX5_readPart : List Cond := .code yX5_readPart cX5_readPart 5 (some .int) :: kw
theorem kwm_236 : (.fieldLink RX5 79 "ClockTextsModel" "digits" "I" : Cond) ∈ kw := kw_in (i := 536) (by decide +kernel) (by decide +kernel)
theorem kwm_237 : (.fieldLink RX5 13 "ClockTextsModel" "part" "[I" : Cond) ∈ kw := kw_in (i := 535) (by decide +kernel) (by decide +kernel)
theorem dX5_readPart_0 : decode cX5_readPart 0 = .ok (.aload_n 0, 1) := by decide +kernel
theorem dX5_readPart_1 : decode cX5_readPart 1 = .ok (.dup, 1) := by decide +kernel
theorem dX5_readPart_2 : decode cX5_readPart 2 = .ok (.getfield 65, 3) := by decide +kernel
theorem dX5_readPart_5 : decode cX5_readPart 5 = .ok (.iconst 1, 1) := by decide +kernel
theorem dX5_readPart_6 : decode cX5_readPart 6 = .ok (.iadd, 1) := by decide +kernel
theorem dX5_readPart_7 : decode cX5_readPart 7 = .ok (.putfield 65, 3) := by decide +kernel
theorem dX5_readPart_10 : decode cX5_readPart 10 = .ok (.aload_n 0, 1) := by decide +kernel
theorem dX5_readPart_11 : decode cX5_readPart 11 = .ok (.aload_n 0, 1) := by decide +kernel
theorem dX5_readPart_12 : decode cX5_readPart 12 = .ok (.getfield 68, 3) := by decide +kernel
theorem dX5_readPart_15 : decode cX5_readPart 15 = .ok (.ifCond .ne 10, 3) := by decide +kernel
theorem dX5_readPart_18 : decode cX5_readPart 18 = .ok (.aload_n 0, 1) := by decide +kernel
theorem dX5_readPart_19 : decode cX5_readPart 19 = .ok (.invokevirtual 72, 3) := by decide +kernel
theorem dX5_readPart_22 : decode cX5_readPart 22 = .ok (.ifCond .ne 7, 3) := by decide +kernel
theorem dX5_readPart_25 : decode cX5_readPart 25 = .ok (.iconst 1, 1) := by decide +kernel
theorem dX5_readPart_26 : decode cX5_readPart 26 = .ok (.goto 4, 3) := by decide +kernel
theorem dX5_readPart_29 : decode cX5_readPart 29 = .ok (.iconst 0, 1) := by decide +kernel
theorem dX5_readPart_30 : decode cX5_readPart 30 = .ok (.putfield 68, 3) := by decide +kernel
theorem dX5_readPart_33 : decode cX5_readPart 33 = .ok (.aload_n 0, 1) := by decide +kernel
theorem dX5_readPart_34 : decode cX5_readPart 34 = .ok (.getfield 68, 3) := by decide +kernel
theorem dX5_readPart_37 : decode cX5_readPart 37 = .ok (.ifCond .ne 54, 3) := by decide +kernel
theorem dX5_readPart_40 : decode cX5_readPart 40 = .ok (.aload_n 0, 1) := by decide +kernel
theorem dX5_readPart_41 : decode cX5_readPart 41 = .ok (.invokevirtual 72, 3) := by decide +kernel
theorem dX5_readPart_44 : decode cX5_readPart 44 = .ok (.ifCond .eq 47, 3) := by decide +kernel
theorem dX5_readPart_47 : decode cX5_readPart 47 = .ok (.aload_n 0, 1) := by decide +kernel
theorem dX5_readPart_48 : decode cX5_readPart 48 = .ok (.getfield 13, 3) := by decide +kernel
theorem dX5_readPart_51 : decode cX5_readPart 51 = .ok (.aload_n 0, 1) := by decide +kernel
theorem dX5_readPart_52 : decode cX5_readPart 52 = .ok (.getfield 79, 3) := by decide +kernel
theorem dX5_readPart_55 : decode cX5_readPart 55 = .ok (.aload_n 0, 1) := by decide +kernel
theorem dX5_readPart_56 : decode cX5_readPart 56 = .ok (.getfield 7, 3) := by decide +kernel
theorem dX5_readPart_59 : decode cX5_readPart 59 = .ok (.aload_n 0, 1) := by decide +kernel
theorem dX5_readPart_60 : decode cX5_readPart 60 = .ok (.getfield 65, 3) := by decide +kernel
theorem dX5_readPart_63 : decode cX5_readPart 63 = .ok (.iaload, 1) := by decide +kernel
theorem dX5_readPart_64 : decode cX5_readPart 64 = .ok (.bipush 48, 2) := by decide +kernel
theorem dX5_readPart_66 : decode cX5_readPart 66 = .ok (.isub, 1) := by decide +kernel
theorem dX5_readPart_67 : decode cX5_readPart 67 = .ok (.iastore, 1) := by decide +kernel
theorem dX5_readPart_68 : decode cX5_readPart 68 = .ok (.aload_n 0, 1) := by decide +kernel
theorem dX5_readPart_69 : decode cX5_readPart 69 = .ok (.dup, 1) := by decide +kernel
theorem dX5_readPart_70 : decode cX5_readPart 70 = .ok (.getfield 79, 3) := by decide +kernel
theorem dX5_readPart_73 : decode cX5_readPart 73 = .ok (.iconst 1, 1) := by decide +kernel
theorem dX5_readPart_74 : decode cX5_readPart 74 = .ok (.iadd, 1) := by decide +kernel
theorem dX5_readPart_75 : decode cX5_readPart 75 = .ok (.putfield 79, 3) := by decide +kernel
theorem dX5_readPart_78 : decode cX5_readPart 78 = .ok (.aload_n 0, 1) := by decide +kernel
theorem dX5_readPart_79 : decode cX5_readPart 79 = .ok (.dup, 1) := by decide +kernel
theorem dX5_readPart_80 : decode cX5_readPart 80 = .ok (.getfield 65, 3) := by decide +kernel
theorem dX5_readPart_83 : decode cX5_readPart 83 = .ok (.iconst 1, 1) := by decide +kernel
theorem dX5_readPart_84 : decode cX5_readPart 84 = .ok (.iadd, 1) := by decide +kernel
theorem dX5_readPart_85 : decode cX5_readPart 85 = .ok (.putfield 65, 3) := by decide +kernel
theorem dX5_readPart_88 : decode cX5_readPart 88 = .ok (.goto (-55), 3) := by decide +kernel
theorem dX5_readPart_91 : decode cX5_readPart 91 = .ok (.iconst 0, 1) := by decide +kernel
theorem dX5_readPart_92 : decode cX5_readPart 92 = .ok (.istore_n 2, 1) := by decide +kernel
theorem dX5_readPart_93 : decode cX5_readPart 93 = .ok (.aload_n 0, 1) := by decide +kernel
theorem dX5_readPart_94 : decode cX5_readPart 94 = .ok (.getfield 79, 3) := by decide +kernel
theorem dX5_readPart_97 : decode cX5_readPart 97 = .ok (.iconst 1, 1) := by decide +kernel
theorem dX5_readPart_98 : decode cX5_readPart 98 = .ok (.isub, 1) := by decide +kernel
theorem dX5_readPart_99 : decode cX5_readPart 99 = .ok (.istore_n 3, 1) := by decide +kernel
theorem dX5_readPart_100 : decode cX5_readPart 100 = .ok (.iload_n 3, 1) := by decide +kernel
theorem dX5_readPart_101 : decode cX5_readPart 101 = .ok (.ifCond .lt 38, 3) := by decide +kernel
theorem dX5_readPart_104 : decode cX5_readPart 104 = .ok (.aload_n 0, 1) := by decide +kernel
theorem dX5_readPart_105 : decode cX5_readPart 105 = .ok (.getfield 13, 3) := by decide +kernel
theorem dX5_readPart_108 : decode cX5_readPart 108 = .ok (.iload_n 3, 1) := by decide +kernel
theorem dX5_readPart_109 : decode cX5_readPart 109 = .ok (.iaload, 1) := by decide +kernel
theorem dX5_readPart_110 : decode cX5_readPart 110 = .ok (.iload_n 1, 1) := by decide +kernel
theorem dX5_readPart_111 : decode cX5_readPart 111 = .ok (.imul, 1) := by decide +kernel
theorem dX5_readPart_112 : decode cX5_readPart 112 = .ok (.iload_n 2, 1) := by decide +kernel
theorem dX5_readPart_113 : decode cX5_readPart 113 = .ok (.iadd, 1) := by decide +kernel
theorem dX5_readPart_114 : decode cX5_readPart 114 = .ok (.istore 4, 2) := by decide +kernel
theorem dX5_readPart_116 : decode cX5_readPart 116 = .ok (.aload_n 0, 1) := by decide +kernel
theorem dX5_readPart_117 : decode cX5_readPart 117 = .ok (.getfield 13, 3) := by decide +kernel
theorem dX5_readPart_120 : decode cX5_readPart 120 = .ok (.iload_n 3, 1) := by decide +kernel
theorem dX5_readPart_121 : decode cX5_readPart 121 = .ok (.iload 4, 2) := by decide +kernel
theorem dX5_readPart_123 : decode cX5_readPart 123 = .ok (.bipush 10, 2) := by decide +kernel
theorem dX5_readPart_125 : decode cX5_readPart 125 = .ok (.irem, 1) := by decide +kernel
theorem dX5_readPart_126 : decode cX5_readPart 126 = .ok (.iastore, 1) := by decide +kernel
theorem dX5_readPart_127 : decode cX5_readPart 127 = .ok (.iload 4, 2) := by decide +kernel
theorem dX5_readPart_129 : decode cX5_readPart 129 = .ok (.bipush 10, 2) := by decide +kernel
theorem dX5_readPart_131 : decode cX5_readPart 131 = .ok (.idiv, 1) := by decide +kernel
theorem dX5_readPart_132 : decode cX5_readPart 132 = .ok (.istore_n 2, 1) := by decide +kernel
theorem dX5_readPart_133 : decode cX5_readPart 133 = .ok (.iinc 3 (-1), 3) := by decide +kernel
theorem dX5_readPart_136 : decode cX5_readPart 136 = .ok (.goto (-36), 3) := by decide +kernel
theorem dX5_readPart_139 : decode cX5_readPart 139 = .ok (.aload_n 0, 1) := by decide +kernel
theorem dX5_readPart_140 : decode cX5_readPart 140 = .ok (.getfield 79, 3) := by decide +kernel
theorem dX5_readPart_143 : decode cX5_readPart 143 = .ok (.ifCond .le 30, 3) := by decide +kernel
theorem dX5_readPart_146 : decode cX5_readPart 146 = .ok (.aload_n 0, 1) := by decide +kernel
theorem dX5_readPart_147 : decode cX5_readPart 147 = .ok (.getfield 13, 3) := by decide +kernel
theorem dX5_readPart_150 : decode cX5_readPart 150 = .ok (.aload_n 0, 1) := by decide +kernel
theorem dX5_readPart_151 : decode cX5_readPart 151 = .ok (.getfield 79, 3) := by decide +kernel
theorem dX5_readPart_154 : decode cX5_readPart 154 = .ok (.iconst 1, 1) := by decide +kernel
theorem dX5_readPart_155 : decode cX5_readPart 155 = .ok (.isub, 1) := by decide +kernel
theorem dX5_readPart_156 : decode cX5_readPart 156 = .ok (.iaload, 1) := by decide +kernel
theorem dX5_readPart_157 : decode cX5_readPart 157 = .ok (.ifCond .ne 16, 3) := by decide +kernel
theorem dX5_readPart_160 : decode cX5_readPart 160 = .ok (.aload_n 0, 1) := by decide +kernel
theorem dX5_readPart_161 : decode cX5_readPart 161 = .ok (.dup, 1) := by decide +kernel
theorem dX5_readPart_162 : decode cX5_readPart 162 = .ok (.getfield 79, 3) := by decide +kernel
theorem dX5_readPart_165 : decode cX5_readPart 165 = .ok (.iconst 1, 1) := by decide +kernel
theorem dX5_readPart_166 : decode cX5_readPart 166 = .ok (.isub, 1) := by decide +kernel
theorem dX5_readPart_167 : decode cX5_readPart 167 = .ok (.putfield 79, 3) := by decide +kernel
theorem dX5_readPart_170 : decode cX5_readPart 170 = .ok (.goto (-31), 3) := by decide +kernel
theorem dX5_readPart_173 : decode cX5_readPart 173 = .ok (.iload_n 2, 1) := by decide +kernel
theorem dX5_readPart_174 : decode cX5_readPart 174 = .ok (.ireturn, 1) := by decide +kernel
set_option maxHeartbeats 4000000 in
set_option maxRecDepth 100000 in
theorem lp_r3 {p : Program} {l : Launch} {e : Env} {s : State} {m : MethodId} {below : List Frame} {meth : Method} {c : Code} (dC : Nat → ClassId) (dI : Nat → Nat → Nat) (st : Nat) {A : Nat → Prop} (q : Nat) (th : Int32) (tx : Nat) (mz : Nat) (fl : Int32) (it : Bool) (al : Int64) (pt : Nat) (ot : Nat) (wr : Nat) (kz : Nat) (ka : Nat) (kd : Nat) (kp : Nat) (ma : Nat) (wg : Bool) (c1 : ClassId) (X : Nat → Int32) (c2 : ClassId) (PD : Nat → Int32) (u : Int32) (cy : Int32) (T : Nat) (Cx : kc_Cx yX5_readPart cX5_readPart (some .int) 5 wsX5_readPart p s m ([.ref q, .int u] : List Value).toArray meth c) (hA : ∀ q, s.heap.size ≤ q → A q) (hG : kg st A s) (hK : va_K (dC, dI) kcl [(c1, .int), (c2, .int)] s) :
    ∀ (dg : Nat)  (hdg : dg ≤ 250) (hT : stL PD dg = T) (H : Heap) (locs : List Loc) (ls : Array Slot), va_P (dC, dI) kcl [(q, .inr (5, [.int th, .ref tx, .int (nI mz), .int fl, .int (bI it), .long al, .ref pt, .int (nI dg), .ref ot, .int (nI wr), .int (nI kz), .ref ka, .ref kd, .ref kp, .int (nI ma), .int (bI wg)])), (tx, .inl (c1, 256, .inl X)), (pt, .inl (c2, 256, .inl PD))] H → va_D A [(q, .inr (5, [.int th, .ref tx, .int (nI mz), .int fl, .int (bI it), .long al, .ref pt, .int (nI dg), .ref ot, .int (nI wr), .int (nI kz), .ref ka, .ref kd, .ref kp, .int (nI ma), .int (bI wg)])), (tx, .inl (c1, 256, .inl X)), (pt, .inl (c2, 256, .inl PD))] → va_S A s.heap H locs → lv_has ls 5 [(0, .ref q), (1, .int u), (2, .int cy)] → W p l e ({ frames := 1, cells := 0, slots := 0, locals := 20 }) s m ([.ref q, .int u] : List Value).toArray below meth c H locs 0 0 (MQ below (kc_Qi (dC, dI) kcl cy [(q, .inr (5, [.int th, .ref tx, .int (nI mz), .int fl, .int (bI it), .long al, .ref pt, .int (nI T), .ref ot, .int (nI wr), .int (nI kz), .ref ka, .ref kd, .ref kp, .int (nI ma), .int (bI wg)])), (tx, .inl (c1, 256, .inl X)), (pt, .inl (c2, 256, .inl PD))] A) ([.ref q, .int u] : List Value).toArray s 0 0 A) (F0 m 139 ls []) := by
  obtain ⟨hx, hb, hr, hml, hown, hts, hlocks, hnm⟩ := Cx
  intro dg
  induction dg with
  | zero =>
    intro hdg hT H locs ls hP hD hS hl
    refine lv_aload_n hx hb dX5_readPart_139 rfl (lv_at hl 0 rfl) ?_
    refine va_get (D := (dC, dI)) (ci := 5) (v := .int (nI 0)) (C := RX5) (T := TX5) (N := 16) hx hb hts kin_5 hown hK hP 0 rfl rfl 7 (by decide) (hts _ (kcm kwm_236)) (fun _ h9 => h9) rfl dX5_readPart_140 ?_
    refine lv_if_le (tgt := 173) hx hb dX5_readPart_143 (by decide) (fun c_143 => ?_) (fun c_143 => ?_)
    · refine lv_iload_n hx hb dX5_readPart_173 rfl (lv_at hl 2 rfl) ?_
      have hP9 : va_P (dC, dI) kcl [(q, .inr (5, [.int th, .ref tx, .int (nI mz), .int fl, .int (bI it), .long al, .ref pt, .int (nI T), .ref ot, .int (nI wr), .int (nI kz), .ref ka, .ref kd, .ref kp, .int (nI ma), .int (bI wg)])), (tx, .inl (c1, 256, .inl X)), (pt, .inl (c2, 256, .inl PD))] H := by
        try rw [← hT]
        exact hP.sub [0, 1, 2] rfl
      have hD9 : va_D A [(q, .inr (5, [.int th, .ref tx, .int (nI mz), .int fl, .int (bI it), .long al, .ref pt, .int (nI T), .ref ot, .int (nI wr), .int (nI kz), .ref ka, .ref kd, .ref kp, .int (nI ma), .int (bI wg)])), (tx, .inl (c1, 256, .inl X)), (pt, .inl (c2, 256, .inl PD))] := by
        try rw [← hT]
        exact hD.sub [0, 1, 2] (by decide) rfl
      have hv9 : cy = cy := by
        try rw [← hT]
        try rfl
      exact kc_iret hx hb hr hlocks hv9 hP9 hD9 hS dX5_readPart_174
    · exact absurd (show nI 0 ≤ 0 by decide) c_143
  | succ dg ih =>
    intro hdg hT H locs ls hP hD hS hl
    refine lv_aload_n hx hb dX5_readPart_139 rfl (lv_at hl 0 rfl) ?_
    refine va_get (D := (dC, dI)) (ci := 5) (v := .int (nI (dg + 1))) (C := RX5) (T := TX5) (N := 16) hx hb hts kin_5 hown hK hP 0 rfl rfl 7 (by decide) (hts _ (kcm kwm_236)) (fun _ h9 => h9) rfl dX5_readPart_140 ?_
    refine lv_if_le (tgt := 173) hx hb dX5_readPart_143 (by decide) (fun c_143 => ?_) (fun c_143 => ?_)
    · exact absurd c_143 (nI_nle (by omega) (by omega))
    · refine lv_aload_n hx hb dX5_readPart_146 rfl (lv_at hl 0 rfl) ?_
      refine va_get (D := (dC, dI)) (ci := 5) (v := .ref pt) (C := RX5) (T := TX5) (N := 16) hx hb hts kin_5 hown hK hP 0 rfl rfl 6 (by decide) (hts _ (kcm kwm_237)) (fun _ h9 => h9) rfl dX5_readPart_147 ?_
      refine lv_aload_n hx hb dX5_readPart_150 rfl (lv_at hl 0 rfl) ?_
      refine va_get (D := (dC, dI)) (ci := 5) (v := .int (nI (dg + 1))) (C := RX5) (T := TX5) (N := 16) hx hb hts kin_5 hown hK hP 0 rfl rfl 7 (by decide) (hts _ (kcm kwm_236)) (fun _ h9 => h9) rfl dX5_readPart_151 ?_
      refine lv_iconst (v := 1) hx hb dX5_readPart_154 (by decide) ?_
      refine lv_isub hx hb dX5_readPart_155 ?_
      rw [show (nI (dg + 1)) - 1 = nI dg from nI_pred dg]
      refine va_iald hx hb hK hP 2 1 rfl rfl (vp_in_nI (by omega) (by decide)) dX5_readPart_156 ?_
      rw [show (nI dg).toNatClampNeg = dg from nI_clamp (by omega)]
      refine lv_if_ne (tgt := 173) hx hb dX5_readPart_157 (by decide) (fun c_157 => ?_) (fun c_157 => ?_)
      · refine lv_iload_n hx hb dX5_readPart_173 rfl (lv_at hl 2 rfl) ?_
        have hT : dg + 1 = T := by rw [← hT]; exact (if_neg c_157).symm
        have hP9 : va_P (dC, dI) kcl [(q, .inr (5, [.int th, .ref tx, .int (nI mz), .int fl, .int (bI it), .long al, .ref pt, .int (nI T), .ref ot, .int (nI wr), .int (nI kz), .ref ka, .ref kd, .ref kp, .int (nI ma), .int (bI wg)])), (tx, .inl (c1, 256, .inl X)), (pt, .inl (c2, 256, .inl PD))] H := by
          try rw [← hT]
          exact hP.sub [0, 1, 2] rfl
        have hD9 : va_D A [(q, .inr (5, [.int th, .ref tx, .int (nI mz), .int fl, .int (bI it), .long al, .ref pt, .int (nI T), .ref ot, .int (nI wr), .int (nI kz), .ref ka, .ref kd, .ref kp, .int (nI ma), .int (bI wg)])), (tx, .inl (c1, 256, .inl X)), (pt, .inl (c2, 256, .inl PD))] := by
          try rw [← hT]
          exact hD.sub [0, 1, 2] (by decide) rfl
        have hv9 : cy = cy := by
          try rw [← hT]
          try rfl
        exact kc_iret hx hb hr hlocks hv9 hP9 hD9 hS dX5_readPart_174
      · refine lv_aload_n hx hb dX5_readPart_160 rfl (lv_at hl 0 rfl) ?_
        refine lv_dup hx hb dX5_readPart_161 rfl ?_
        refine va_get (D := (dC, dI)) (ci := 5) (v := .int (nI (dg + 1))) (C := RX5) (T := TX5) (N := 16) hx hb hts kin_5 hown hK hP 0 rfl rfl 7 (by decide) (hts _ (kcm kwm_236)) (fun _ h9 => h9) rfl dX5_readPart_162 ?_
        refine lv_iconst (v := 1) hx hb dX5_readPart_165 (by decide) ?_
        refine lv_isub hx hb dX5_readPart_166 ?_
        rw [show (nI (dg + 1)) - 1 = nI dg from nI_pred dg]
        refine va_put (D := (dC, dI)) (ci := 5) (v := .int (nI dg)) (ty := .int) (C := RX5) (T := TX5) (N := 16) hx hb hts kin_5 tyX5 tyX5_ok nmX5 hown hK hP hD hS 0 rfl rfl 7 (by decide) (hts _ (kcm kwm_236)) (fun _ h9 => h9) rfl (by decide +kernel) rfl rfl (Nat.le_of_ble_eq_true rfl) dX5_readPart_167 (fun H locs hP hD hS => ?_)
        have hP : va_P (dC, dI) kcl [(q, .inr (5, [.int th, .ref tx, .int (nI mz), .int fl, .int (bI it), .long al, .ref pt, .int (nI dg), .ref ot, .int (nI wr), .int (nI kz), .ref ka, .ref kd, .ref kp, .int (nI ma), .int (bI wg)])), (tx, .inl (c1, 256, .inl X)), (pt, .inl (c2, 256, .inl PD))] H := hP
        have hD : va_D A [(q, .inr (5, [.int th, .ref tx, .int (nI mz), .int fl, .int (bI it), .long al, .ref pt, .int (nI dg), .ref ot, .int (nI wr), .int (nI kz), .ref ka, .ref kd, .ref kp, .int (nI ma), .int (bI wg)])), (tx, .inl (c1, 256, .inl X)), (pt, .inl (c2, 256, .inl PD))] := hD
        refine lv_goto (tgt := 139) hx hb dX5_readPart_170 (by decide) ?_
        exact ih (by omega) (by rw [← hT]; exact (if_pos c_157).symm) H locs ls hP hD hS (lv_sub hl [0, 1, 2] rfl)
set_option maxHeartbeats 4000000 in
set_option maxRecDepth 100000 in
theorem lp_r2 {p : Program} {l : Launch} {e : Env} {s : State} {m : MethodId} {below : List Frame} {meth : Method} {c : Code} (dC : Nat → ClassId) (dI : Nat → Nat → Nat) (st : Nat) {A : Nat → Prop} (q : Nat) (th : Int32) (tx : Nat) (mz : Nat) (fl : Int32) (it : Bool) (al : Int64) (pt : Nat) (dg : Nat) (ot : Nat) (wr : Nat) (kz : Nat) (ka : Nat) (kd : Nat) (kp : Nat) (ma : Nat) (wg : Bool) (c1 : ClassId) (X : Nat → Int32) (c2 : ClassId) (u : Int32) (T : (Nat → Int32) × Int32) (hdg : dg ≤ 250) (Cx : kc_Cx yX5_readPart cX5_readPart (some .int) 5 wsX5_readPart p s m ([.ref q, .int u] : List Value).toArray meth c) (hA : ∀ q, s.heap.size ≤ q → A q) (hG : kg st A s) (hK : va_K (dC, dI) kcl [(c1, .int), (c2, .int)] s) :
    ∀ (j : Nat) (PD : Nat → Int32) (cy : Int32) (xi : Int32) (hxi : xi = nI j - 1) (hj : j ≤ dg) (hT : smL u j PD cy = T) (H : Heap) (locs : List Loc) (ls : Array Slot), va_P (dC, dI) kcl [(q, .inr (5, [.int th, .ref tx, .int (nI mz), .int fl, .int (bI it), .long al, .ref pt, .int (nI dg), .ref ot, .int (nI wr), .int (nI kz), .ref ka, .ref kd, .ref kp, .int (nI ma), .int (bI wg)])), (tx, .inl (c1, 256, .inl X)), (pt, .inl (c2, 256, .inl PD))] H → va_D A [(q, .inr (5, [.int th, .ref tx, .int (nI mz), .int fl, .int (bI it), .long al, .ref pt, .int (nI dg), .ref ot, .int (nI wr), .int (nI kz), .ref ka, .ref kd, .ref kp, .int (nI ma), .int (bI wg)])), (tx, .inl (c1, 256, .inl X)), (pt, .inl (c2, 256, .inl PD))] → va_S A s.heap H locs → lv_has ls 5 [(0, .ref q), (1, .int u), (2, .int cy), (3, .int xi)] → W p l e ({ frames := 1, cells := 0, slots := 0, locals := 20 }) s m ([.ref q, .int u] : List Value).toArray below meth c H locs 0 0 (MQ below (kc_Qi (dC, dI) kcl T.2 [(q, .inr (5, [.int th, .ref tx, .int (nI mz), .int fl, .int (bI it), .long al, .ref pt, .int (nI (stL T.1 dg)), .ref ot, .int (nI wr), .int (nI kz), .ref ka, .ref kd, .ref kp, .int (nI ma), .int (bI wg)])), (tx, .inl (c1, 256, .inl X)), (pt, .inl (c2, 256, .inl T.1))] A) ([.ref q, .int u] : List Value).toArray s 0 0 A) (F0 m 100 ls []) := by
  obtain ⟨hx, hb, hr, hml, hown, hts, hlocks, hnm⟩ := id Cx
  intro j
  induction j with
  | zero =>
    intro PD cy xi hxi hj hT H locs ls hP hD hS hl
    refine lv_iload_n hx hb dX5_readPart_100 rfl (lv_at hl 3 rfl) ?_
    refine lv_if_lt (tgt := 139) hx hb dX5_readPart_101 (by decide) (fun c_101 => ?_) (fun c_101 => ?_)
    · have hT : (PD, cy) = T := hT
      rw [← hT]
      exact lp_r3 dC dI st q th tx mz fl it al pt ot wr kz ka kd kp ma wg c1 X c2 PD u cy (stL PD dg) Cx hA hG hK dg hdg rfl H locs ls hP hD hS (lv_sub hl [0, 1, 2] rfl)
    · exact absurd (show xi < 0 by rw [hxi]; decide) c_101
  | succ j ih =>
    intro PD cy xi hxi hj hT H locs ls hP hD hS hl
    have hxi : xi = nI j := by rw [hxi]; exact nI_pred j
    subst hxi
    refine lv_iload_n hx hb dX5_readPart_100 rfl (lv_at hl 3 rfl) ?_
    refine lv_if_lt (tgt := 139) hx hb dX5_readPart_101 (by decide) (fun c_101 => ?_) (fun c_101 => ?_)
    · exact absurd c_101 (nI_pos (by omega))
    · refine lv_aload_n hx hb dX5_readPart_104 rfl (lv_at hl 0 rfl) ?_
      refine va_get (D := (dC, dI)) (ci := 5) (v := .ref pt) (C := RX5) (T := TX5) (N := 16) hx hb hts kin_5 hown hK hP 0 rfl rfl 6 (by decide) (hts _ (kcm kwm_237)) (fun _ h9 => h9) rfl dX5_readPart_105 ?_
      refine lv_iload_n hx hb dX5_readPart_108 rfl (lv_at hl 3 rfl) ?_
      refine va_iald hx hb hK hP 2 1 rfl rfl (vp_in_nI (by omega) (by decide)) dX5_readPart_109 ?_
      rw [show ((nI j)).toNatClampNeg = j from nI_clamp (by omega)]
      refine lv_iload_n hx hb dX5_readPart_110 rfl (lv_at hl 1 rfl) ?_
      refine lv_imul hx hb dX5_readPart_111 ?_
      refine lv_iload_n hx hb dX5_readPart_112 rfl (lv_at hl 2 rfl) ?_
      refine lv_iadd hx hb dX5_readPart_113 ?_
      refine lv_istore (lv' := [(4, .int (((PD j) * u) + cy)), (0, .ref q), (1, .int u), (2, .int cy), (3, .int (nI j))]) hx hb dX5_readPart_114 hl (by decide) rfl (fun ls hl => ?_)
      refine lv_aload_n hx hb dX5_readPart_116 rfl (lv_at hl 1 rfl) ?_
      refine va_get (D := (dC, dI)) (ci := 5) (v := .ref pt) (C := RX5) (T := TX5) (N := 16) hx hb hts kin_5 hown hK hP 0 rfl rfl 6 (by decide) (hts _ (kcm kwm_237)) (fun _ h9 => h9) rfl dX5_readPart_117 ?_
      refine lv_iload_n hx hb dX5_readPart_120 rfl (lv_at hl 4 rfl) ?_
      refine lv_iload hx hb dX5_readPart_121 (lv_at hl 0 rfl) ?_
      refine lv_bipush (v := 10) hx hb dX5_readPart_123 (by decide) ?_
      refine lv_irem hx hb dX5_readPart_125 (by decide) ?_
      refine va_iast hx hb hK hP hD hS 2 1 rfl rfl (vp_in_nI (by omega) (by decide)) dX5_readPart_126 (fun H locs hP hD hS => ?_)
      rw [show ((nI j)).toNatClampNeg = j from nI_clamp (by omega)] at hP hD
      have hP : va_P (dC, dI) kcl [(q, .inr (5, [.int th, .ref tx, .int (nI mz), .int fl, .int (bI it), .long al, .ref pt, .int (nI dg), .ref ot, .int (nI wr), .int (nI kz), .ref ka, .ref kd, .ref kp, .int (nI ma), .int (bI wg)])), (tx, .inl (c1, 256, .inl X)), (pt, .inl (c2, 256, .inl (upd PD j ((((PD j) * u) + cy) - (((PD j) * u) + cy) / 10 * 10))))] H := hP
      have hD : va_D A [(q, .inr (5, [.int th, .ref tx, .int (nI mz), .int fl, .int (bI it), .long al, .ref pt, .int (nI dg), .ref ot, .int (nI wr), .int (nI kz), .ref ka, .ref kd, .ref kp, .int (nI ma), .int (bI wg)])), (tx, .inl (c1, 256, .inl X)), (pt, .inl (c2, 256, .inl (upd PD j ((((PD j) * u) + cy) - (((PD j) * u) + cy) / 10 * 10))))] := hD
      refine lv_iload hx hb dX5_readPart_127 (lv_at hl 0 rfl) ?_
      refine lv_bipush (v := 10) hx hb dX5_readPart_129 (by decide) ?_
      refine lv_idiv hx hb dX5_readPart_131 (by decide) ?_
      refine lv_istore_n (lv' := [(2, .int ((((PD j) * u) + cy) / 10)), (4, .int (((PD j) * u) + cy)), (0, .ref q), (1, .int u), (3, .int (nI j))]) hx hb dX5_readPart_132 rfl hl (by decide) rfl (fun ls hl => ?_)
      refine lv_iinc (v := (nI j) + (-1)) (lv' := [(3, .int ((nI j) + (-1))), (2, .int ((((PD j) * u) + cy) / 10)), (4, .int (((PD j) * u) + cy)), (0, .ref q), (1, .int u)]) hx hb dX5_readPart_133 hl (k := 4) rfl (congrArg (fun z => (nI j) + z) (show Int32.ofInt (-1) = (-1 : Int32) by decide)) (by decide) rfl (fun ls hl => ?_)
      refine lv_goto (tgt := 100) hx hb dX5_readPart_136 (by decide) ?_
      exact ih _ _ _ (kb_m1 (nI j)) (by omega) hT H locs ls hP hD hS (lv_sub hl [3, 4, 1, 0] rfl)
set_option maxHeartbeats 4000000 in
set_option maxRecDepth 100000 in
theorem lp_r1 {p : Program} {l : Launch} {e : Env} {s : State} {m : MethodId} {below : List Frame} {meth : Method} {c : Code} (dC : Nat → ClassId) (dI : Nat → Nat → Nat) (st : Nat) {A : Nat → Prop} (q : Nat) (th : Int32) (tx : Nat) (mz : Nat) (fl : Int32) (it : Bool) (al : Int64) (pt : Nat) (ot : Nat) (wr : Nat) (kz : Nat) (ka : Nat) (kd : Nat) (kp : Nat) (c1 : ClassId) (X : Nat → Int32) (c2 : ClassId) (u : Int32) (hz : mz ≤ 242) (wg : Bool) (T : Nat × (Nat → Int32) × Nat) (Cx : kc_Cx yX5_readPart cX5_readPart (some .int) 5 wsX5_readPart p s m ([.ref q, .int u] : List Value).toArray meth c) (hA : ∀ q, s.heap.size ≤ q → A q) (hG : kg st A s) (hK : va_K (dC, dI) kcl [(c1, .int), (c2, .int)] s) :
    ∀ (N : Nat) (ma : Nat) (PD : Nat → Int32) (dg : Nat) (ha : ma + N ≤ 900) (hN : mz ≤ ma + N) (hdg : dg + N ≤ 250) (hT : rpL X mz wg N ma PD dg = T) (H : Heap) (locs : List Loc) (ls : Array Slot), va_P (dC, dI) kcl [(q, .inr (5, [.int th, .ref tx, .int (nI mz), .int fl, .int (bI it), .long al, .ref pt, .int (nI dg), .ref ot, .int (nI wr), .int (nI kz), .ref ka, .ref kd, .ref kp, .int (nI ma), .int (bI wg)])), (tx, .inl (c1, 256, .inl X)), (pt, .inl (c2, 256, .inl PD))] H → va_D A [(q, .inr (5, [.int th, .ref tx, .int (nI mz), .int fl, .int (bI it), .long al, .ref pt, .int (nI dg), .ref ot, .int (nI wr), .int (nI kz), .ref ka, .ref kd, .ref kp, .int (nI ma), .int (bI wg)])), (tx, .inl (c1, 256, .inl X)), (pt, .inl (c2, 256, .inl PD))] → va_S A s.heap H locs → lv_has ls 5 [(0, .ref q), (1, .int u)] → W p l e ({ frames := 1, cells := 0, slots := 0, locals := 20 }) s m ([.ref q, .int u] : List Value).toArray below meth c H locs 0 0 (MQ below (kc_Qi (dC, dI) kcl (smL u T.2.2 T.2.1 0).2 [(q, .inr (5, [.int th, .ref tx, .int (nI mz), .int fl, .int (bI it), .long al, .ref pt, .int (nI (stL (smL u T.2.2 T.2.1 0).1 T.2.2)), .ref ot, .int (nI wr), .int (nI kz), .ref ka, .ref kd, .ref kp, .int (nI T.1), .int (bI wg)])), (tx, .inl (c1, 256, .inl X)), (pt, .inl (c2, 256, .inl (smL u T.2.2 T.2.1 0).1))] A) ([.ref q, .int u] : List Value).toArray s 0 0 A) (F0 m 33 ls []) := by
  obtain ⟨hx, hb, hr, hml, hown, hts, hlocks, hnm⟩ := id Cx
  intro N
  induction N with
  | zero =>
    intro ma PD dg ha hN hdg hT H locs ls hP hD hS hl
    refine lv_aload_n hx hb dX5_readPart_33 rfl (lv_at hl 0 rfl) ?_
    refine va_get (D := (dC, dI)) (ci := 5) (v := .int (bI wg)) (C := RX5) (T := TX5) (N := 16) hx hb hts kin_5 hown hK hP 0 rfl rfl 15 (by decide) (hts _ (kcm kwm_235)) (fun _ h9 => h9) rfl dX5_readPart_34 ?_
    refine lv_if_ne (tgt := 91) hx hb dX5_readPart_37 (by decide) (fun c_37 => ?_) (fun c_37 => ?_)
    · refine lv_iconst (v := 0) hx hb dX5_readPart_91 (by decide) ?_
      refine lv_istore_n (lv' := [(2, .int 0), (0, .ref q), (1, .int u)]) hx hb dX5_readPart_92 rfl hl (by decide) rfl (fun ls hl => ?_)
      refine lv_aload_n hx hb dX5_readPart_93 rfl (lv_at hl 1 rfl) ?_
      refine va_get (D := (dC, dI)) (ci := 5) (v := .int (nI dg)) (C := RX5) (T := TX5) (N := 16) hx hb hts kin_5 hown hK hP 0 rfl rfl 7 (by decide) (hts _ (kcm kwm_236)) (fun _ h9 => h9) rfl dX5_readPart_94 ?_
      refine lv_iconst (v := 1) hx hb dX5_readPart_97 (by decide) ?_
      refine lv_isub hx hb dX5_readPart_98 ?_
      refine lv_istore_n (lv' := [(3, .int ((nI dg) - 1)), (2, .int 0), (0, .ref q), (1, .int u)]) hx hb dX5_readPart_99 rfl hl (by decide) rfl (fun ls hl => ?_)
      have hT : (ma, PD, dg) = T := hT
      rw [← hT]
      exact lp_r2 dC dI st q th tx mz fl it al pt dg ot wr kz ka kd kp ma wg c1 X c2 u (smL u dg PD 0) (by omega) Cx hA hG hK dg PD 0 _ rfl (Nat.le_refl _) rfl H locs ls hP hD hS (lv_sub hl [2, 3, 1, 0] rfl)
    · refine lv_aload_n hx hb dX5_readPart_40 rfl (lv_at hl 0 rfl) ?_
      have hPc := hP.sub (ws' := [(q, .inr (5, [.int th, .ref tx, .int (nI mz), .int fl, .int (bI it), .long al, .ref pt, .int (nI dg), .ref ot, .int (nI wr), .int (nI kz), .ref ka, .ref kd, .ref kp, .int (nI ma), .int (bI wg)])), (tx, .inl (c1, 256, .inl X))]) [0, 1] rfl
      have hDc := hD.sub (ws' := [(q, .inr (5, [.int th, .ref tx, .int (nI mz), .int fl, .int (bI it), .long al, .ref pt, .int (nI dg), .ref ot, .int (nI wr), .int (nI kz), .ref ka, .ref kd, .ref kp, .int (nI ma), .int (bI wg)])), (tx, .inl (c1, 256, .inl X))]) [0, 1] (by decide) rfl
      have hKc := hK.sub (tys' := [(c1, .int)]) [0] rfl
      have hFc := va_free (wc := [(q, .inr (5, [.int th, .ref tx, .int (nI mz), .int fl, .int (bI it), .long al, .ref pt, .int (nI dg), .ref ot, .int (nI wr), .int (nI kz), .ref ka, .ref kd, .ref kp, .int (nI ma), .int (bI wg)])), (tx, .inl (c1, 256, .inl X))]) hD hS hA [0, 1] rfl
      refine kc_callSi (val := bI (mDig X mz ma)) (va_runV (As := []) (rest := []) ⟨hx, hb, hml, hown, hts⟩ (m_isDigit l dC dI st H.size q th tx mz fl it al pt dg ot wr kz ka kd kp ma wg c1 X hz (by omega)) (cwV 0 hts (kwV kwm_228 kwm_229 kwm_230 kwm_203 kwm_227) rfl rfl rfl (by decide +kernel) ⟨Nat.le_of_ble_eq_true rfl, Nat.le_of_ble_eq_true rfl⟩) ⟨kc_blind, va_recv hKc hPc (ci := 5) (q0 := 0) rfl rfl, kc_pre hG hS hFc hKc hPc hDc⟩ rfl rfl hl.1 rfl (lv_room (Nat.le_of_ble_eq_true rfl)) dX5_readPart_41 ⟨Nat.le_of_ble_eq_true rfl, Nat.le_of_ble_eq_true rfl⟩) ?_
      refine lv_if_eq (tgt := 91) hx hb dX5_readPart_44 (by decide) (fun c_44 => ?_) (fun c_44 => ?_)
      · refine lv_iconst (v := 0) hx hb dX5_readPart_91 (by decide) ?_
        refine lv_istore_n (lv' := [(2, .int 0), (0, .ref q), (1, .int u)]) hx hb dX5_readPart_92 rfl hl (by decide) rfl (fun ls hl => ?_)
        refine lv_aload_n hx hb dX5_readPart_93 rfl (lv_at hl 1 rfl) ?_
        refine va_get (D := (dC, dI)) (ci := 5) (v := .int (nI dg)) (C := RX5) (T := TX5) (N := 16) hx hb hts kin_5 hown hK hP 0 rfl rfl 7 (by decide) (hts _ (kcm kwm_236)) (fun _ h9 => h9) rfl dX5_readPart_94 ?_
        refine lv_iconst (v := 1) hx hb dX5_readPart_97 (by decide) ?_
        refine lv_isub hx hb dX5_readPart_98 ?_
        refine lv_istore_n (lv' := [(3, .int ((nI dg) - 1)), (2, .int 0), (0, .ref q), (1, .int u)]) hx hb dX5_readPart_99 rfl hl (by decide) rfl (fun ls hl => ?_)
        have hT : (ma, PD, dg) = T := hT
        rw [← hT]
        exact lp_r2 dC dI st q th tx mz fl it al pt dg ot wr kz ka kd kp ma wg c1 X c2 u (smL u dg PD 0) (by omega) Cx hA hG hK dg PD 0 _ rfl (Nat.le_refl _) rfl H locs ls hP hD hS (lv_sub hl [2, 3, 1, 0] rfl)
      · exact absurd (mDig_lt c_44 (by omega)) (by omega)
  | succ N ih =>
    intro ma PD dg ha hN hdg hT H locs ls hP hD hS hl
    refine lv_aload_n hx hb dX5_readPart_33 rfl (lv_at hl 0 rfl) ?_
    refine va_get (D := (dC, dI)) (ci := 5) (v := .int (bI wg)) (C := RX5) (T := TX5) (N := 16) hx hb hts kin_5 hown hK hP 0 rfl rfl 15 (by decide) (hts _ (kcm kwm_235)) (fun _ h9 => h9) rfl dX5_readPart_34 ?_
    refine lv_if_ne (tgt := 91) hx hb dX5_readPart_37 (by decide) (fun c_37 => ?_) (fun c_37 => ?_)
    · refine lv_iconst (v := 0) hx hb dX5_readPart_91 (by decide) ?_
      refine lv_istore_n (lv' := [(2, .int 0), (0, .ref q), (1, .int u)]) hx hb dX5_readPart_92 rfl hl (by decide) rfl (fun ls hl => ?_)
      refine lv_aload_n hx hb dX5_readPart_93 rfl (lv_at hl 1 rfl) ?_
      refine va_get (D := (dC, dI)) (ci := 5) (v := .int (nI dg)) (C := RX5) (T := TX5) (N := 16) hx hb hts kin_5 hown hK hP 0 rfl rfl 7 (by decide) (hts _ (kcm kwm_236)) (fun _ h9 => h9) rfl dX5_readPart_94 ?_
      refine lv_iconst (v := 1) hx hb dX5_readPart_97 (by decide) ?_
      refine lv_isub hx hb dX5_readPart_98 ?_
      refine lv_istore_n (lv' := [(3, .int ((nI dg) - 1)), (2, .int 0), (0, .ref q), (1, .int u)]) hx hb dX5_readPart_99 rfl hl (by decide) rfl (fun ls hl => ?_)
      have hT : (ma, PD, dg) = T := by rw [← hT]; exact (if_neg c_37).symm
      rw [← hT]
      exact lp_r2 dC dI st q th tx mz fl it al pt dg ot wr kz ka kd kp ma wg c1 X c2 u (smL u dg PD 0) (by omega) Cx hA hG hK dg PD 0 _ rfl (Nat.le_refl _) rfl H locs ls hP hD hS (lv_sub hl [2, 3, 1, 0] rfl)
    · refine lv_aload_n hx hb dX5_readPart_40 rfl (lv_at hl 0 rfl) ?_
      have hPc := hP.sub (ws' := [(q, .inr (5, [.int th, .ref tx, .int (nI mz), .int fl, .int (bI it), .long al, .ref pt, .int (nI dg), .ref ot, .int (nI wr), .int (nI kz), .ref ka, .ref kd, .ref kp, .int (nI ma), .int (bI wg)])), (tx, .inl (c1, 256, .inl X))]) [0, 1] rfl
      have hDc := hD.sub (ws' := [(q, .inr (5, [.int th, .ref tx, .int (nI mz), .int fl, .int (bI it), .long al, .ref pt, .int (nI dg), .ref ot, .int (nI wr), .int (nI kz), .ref ka, .ref kd, .ref kp, .int (nI ma), .int (bI wg)])), (tx, .inl (c1, 256, .inl X))]) [0, 1] (by decide) rfl
      have hKc := hK.sub (tys' := [(c1, .int)]) [0] rfl
      have hFc := va_free (wc := [(q, .inr (5, [.int th, .ref tx, .int (nI mz), .int fl, .int (bI it), .long al, .ref pt, .int (nI dg), .ref ot, .int (nI wr), .int (nI kz), .ref ka, .ref kd, .ref kp, .int (nI ma), .int (bI wg)])), (tx, .inl (c1, 256, .inl X))]) hD hS hA [0, 1] rfl
      refine kc_callSi (val := bI (mDig X mz ma)) (va_runV (As := []) (rest := []) ⟨hx, hb, hml, hown, hts⟩ (m_isDigit l dC dI st H.size q th tx mz fl it al pt dg ot wr kz ka kd kp ma wg c1 X hz (by omega)) (cwV 0 hts (kwV kwm_228 kwm_229 kwm_230 kwm_203 kwm_227) rfl rfl rfl (by decide +kernel) ⟨Nat.le_of_ble_eq_true rfl, Nat.le_of_ble_eq_true rfl⟩) ⟨kc_blind, va_recv hKc hPc (ci := 5) (q0 := 0) rfl rfl, kc_pre hG hS hFc hKc hPc hDc⟩ rfl rfl hl.1 rfl (lv_room (Nat.le_of_ble_eq_true rfl)) dX5_readPart_41 ⟨Nat.le_of_ble_eq_true rfl, Nat.le_of_ble_eq_true rfl⟩) ?_
      refine lv_if_eq (tgt := 91) hx hb dX5_readPart_44 (by decide) (fun c_44 => ?_) (fun c_44 => ?_)
      · refine lv_iconst (v := 0) hx hb dX5_readPart_91 (by decide) ?_
        refine lv_istore_n (lv' := [(2, .int 0), (0, .ref q), (1, .int u)]) hx hb dX5_readPart_92 rfl hl (by decide) rfl (fun ls hl => ?_)
        refine lv_aload_n hx hb dX5_readPart_93 rfl (lv_at hl 1 rfl) ?_
        refine va_get (D := (dC, dI)) (ci := 5) (v := .int (nI dg)) (C := RX5) (T := TX5) (N := 16) hx hb hts kin_5 hown hK hP 0 rfl rfl 7 (by decide) (hts _ (kcm kwm_236)) (fun _ h9 => h9) rfl dX5_readPart_94 ?_
        refine lv_iconst (v := 1) hx hb dX5_readPart_97 (by decide) ?_
        refine lv_isub hx hb dX5_readPart_98 ?_
        refine lv_istore_n (lv' := [(3, .int ((nI dg) - 1)), (2, .int 0), (0, .ref q), (1, .int u)]) hx hb dX5_readPart_99 rfl hl (by decide) rfl (fun ls hl => ?_)
        have hT : (ma, PD, dg) = T := by rw [← hT]; exact ((if_pos c_37).trans (if_pos c_44)).symm
        rw [← hT]
        exact lp_r2 dC dI st q th tx mz fl it al pt dg ot wr kz ka kd kp ma wg c1 X c2 u (smL u dg PD 0) (by omega) Cx hA hG hK dg PD 0 _ rfl (Nat.le_refl _) rfl H locs ls hP hD hS (lv_sub hl [2, 3, 1, 0] rfl)
      · refine lv_aload_n hx hb dX5_readPart_47 rfl (lv_at hl 0 rfl) ?_
        refine va_get (D := (dC, dI)) (ci := 5) (v := .ref pt) (C := RX5) (T := TX5) (N := 16) hx hb hts kin_5 hown hK hP 0 rfl rfl 6 (by decide) (hts _ (kcm kwm_237)) (fun _ h9 => h9) rfl dX5_readPart_48 ?_
        refine lv_aload_n hx hb dX5_readPart_51 rfl (lv_at hl 0 rfl) ?_
        refine va_get (D := (dC, dI)) (ci := 5) (v := .int (nI dg)) (C := RX5) (T := TX5) (N := 16) hx hb hts kin_5 hown hK hP 0 rfl rfl 7 (by decide) (hts _ (kcm kwm_236)) (fun _ h9 => h9) rfl dX5_readPart_52 ?_
        refine lv_aload_n hx hb dX5_readPart_55 rfl (lv_at hl 0 rfl) ?_
        refine va_get (D := (dC, dI)) (ci := 5) (v := .ref tx) (C := RX5) (T := TX5) (N := 16) hx hb hts kin_5 hown hK hP 0 rfl rfl 1 (by decide) (hts _ (kcm kwm_205)) (fun _ h9 => h9) rfl dX5_readPart_56 ?_
        refine lv_aload_n hx hb dX5_readPart_59 rfl (lv_at hl 0 rfl) ?_
        refine va_get (D := (dC, dI)) (ci := 5) (v := .int (nI ma)) (C := RX5) (T := TX5) (N := 16) hx hb hts kin_5 hown hK hP 0 rfl rfl 14 (by decide) (hts _ (kcm kwm_226)) (fun _ h9 => h9) rfl dX5_readPart_60 ?_
        refine va_iald hx hb hK hP 1 0 rfl rfl (vp_in_nI (Nat.lt_of_lt_of_le (mDig_lt c_44 (by omega)) (by omega)) (by decide)) dX5_readPart_63 ?_
        rw [show (nI ma).toNatClampNeg = ma from nI_clamp (by omega)]
        refine lv_bipush (v := 48) hx hb dX5_readPart_64 (by decide) ?_
        refine lv_isub hx hb dX5_readPart_66 ?_
        refine va_iast hx hb hK hP hD hS 2 1 rfl rfl (vp_in_nI (by omega) (by decide)) dX5_readPart_67 (fun H locs hP hD hS => ?_)
        rw [show (nI dg).toNatClampNeg = dg from nI_clamp (by omega)] at hP hD
        have hP : va_P (dC, dI) kcl [(q, .inr (5, [.int th, .ref tx, .int (nI mz), .int fl, .int (bI it), .long al, .ref pt, .int (nI dg), .ref ot, .int (nI wr), .int (nI kz), .ref ka, .ref kd, .ref kp, .int (nI ma), .int (bI wg)])), (tx, .inl (c1, 256, .inl X)), (pt, .inl (c2, 256, .inl (upd PD dg ((X ma) - 48))))] H := hP
        have hD : va_D A [(q, .inr (5, [.int th, .ref tx, .int (nI mz), .int fl, .int (bI it), .long al, .ref pt, .int (nI dg), .ref ot, .int (nI wr), .int (nI kz), .ref ka, .ref kd, .ref kp, .int (nI ma), .int (bI wg)])), (tx, .inl (c1, 256, .inl X)), (pt, .inl (c2, 256, .inl (upd PD dg ((X ma) - 48))))] := hD
        refine lv_aload_n hx hb dX5_readPart_68 rfl (lv_at hl 0 rfl) ?_
        refine lv_dup hx hb dX5_readPart_69 rfl ?_
        refine va_get (D := (dC, dI)) (ci := 5) (v := .int (nI dg)) (C := RX5) (T := TX5) (N := 16) hx hb hts kin_5 hown hK hP 0 rfl rfl 7 (by decide) (hts _ (kcm kwm_236)) (fun _ h9 => h9) rfl dX5_readPart_70 ?_
        refine lv_iconst (v := 1) hx hb dX5_readPart_73 (by decide) ?_
        refine lv_iadd hx hb dX5_readPart_74 ?_
        rw [show (nI dg) + 1 = nI (dg + 1) from nI_add dg 1]
        refine va_put (D := (dC, dI)) (ci := 5) (v := .int (nI (dg + 1))) (ty := .int) (C := RX5) (T := TX5) (N := 16) hx hb hts kin_5 tyX5 tyX5_ok nmX5 hown hK hP hD hS 0 rfl rfl 7 (by decide) (hts _ (kcm kwm_236)) (fun _ h9 => h9) rfl (by decide +kernel) rfl rfl (Nat.le_of_ble_eq_true rfl) dX5_readPart_75 (fun H locs hP hD hS => ?_)
        have hP : va_P (dC, dI) kcl [(q, .inr (5, [.int th, .ref tx, .int (nI mz), .int fl, .int (bI it), .long al, .ref pt, .int (nI (dg + 1)), .ref ot, .int (nI wr), .int (nI kz), .ref ka, .ref kd, .ref kp, .int (nI ma), .int (bI wg)])), (tx, .inl (c1, 256, .inl X)), (pt, .inl (c2, 256, .inl (upd PD dg ((X ma) - 48))))] H := hP
        have hD : va_D A [(q, .inr (5, [.int th, .ref tx, .int (nI mz), .int fl, .int (bI it), .long al, .ref pt, .int (nI (dg + 1)), .ref ot, .int (nI wr), .int (nI kz), .ref ka, .ref kd, .ref kp, .int (nI ma), .int (bI wg)])), (tx, .inl (c1, 256, .inl X)), (pt, .inl (c2, 256, .inl (upd PD dg ((X ma) - 48))))] := hD
        refine lv_aload_n hx hb dX5_readPart_78 rfl (lv_at hl 0 rfl) ?_
        refine lv_dup hx hb dX5_readPart_79 rfl ?_
        refine va_get (D := (dC, dI)) (ci := 5) (v := .int (nI ma)) (C := RX5) (T := TX5) (N := 16) hx hb hts kin_5 hown hK hP 0 rfl rfl 14 (by decide) (hts _ (kcm kwm_226)) (fun _ h9 => h9) rfl dX5_readPart_80 ?_
        refine lv_iconst (v := 1) hx hb dX5_readPart_83 (by decide) ?_
        refine lv_iadd hx hb dX5_readPart_84 ?_
        rw [show (nI ma) + 1 = nI (ma + 1) from nI_add ma 1]
        refine va_put (D := (dC, dI)) (ci := 5) (v := .int (nI (ma + 1))) (ty := .int) (C := RX5) (T := TX5) (N := 16) hx hb hts kin_5 tyX5 tyX5_ok nmX5 hown hK hP hD hS 0 rfl rfl 14 (by decide) (hts _ (kcm kwm_226)) (fun _ h9 => h9) rfl (by decide +kernel) rfl rfl (Nat.le_of_ble_eq_true rfl) dX5_readPart_85 (fun H locs hP hD hS => ?_)
        have hP : va_P (dC, dI) kcl [(q, .inr (5, [.int th, .ref tx, .int (nI mz), .int fl, .int (bI it), .long al, .ref pt, .int (nI (dg + 1)), .ref ot, .int (nI wr), .int (nI kz), .ref ka, .ref kd, .ref kp, .int (nI (ma + 1)), .int (bI wg)])), (tx, .inl (c1, 256, .inl X)), (pt, .inl (c2, 256, .inl (upd PD dg ((X ma) - 48))))] H := hP
        have hD : va_D A [(q, .inr (5, [.int th, .ref tx, .int (nI mz), .int fl, .int (bI it), .long al, .ref pt, .int (nI (dg + 1)), .ref ot, .int (nI wr), .int (nI kz), .ref ka, .ref kd, .ref kp, .int (nI (ma + 1)), .int (bI wg)])), (tx, .inl (c1, 256, .inl X)), (pt, .inl (c2, 256, .inl (upd PD dg ((X ma) - 48))))] := hD
        refine lv_goto (tgt := 33) hx hb dX5_readPart_88 (by decide) ?_
        exact ih (ma + 1) _ (dg + 1) (by omega) (by omega) (by omega) (by rw [← hT]; exact ((if_pos c_37).trans (if_neg c_44)).symm) H locs ls hP hD hS (lv_sub hl [0, 1] rfl)
def mRp (X : Nat → Int32) (mz ma : Nat) (wg : Bool) (PD : Nat → Int32) (dg : Nat) (u : Int32) : Int32 × Nat × Bool × (Nat → Int32) × Nat :=
  if (bI wg) = 0 then
    if (bI (mDig X mz (ma + 1))) = 0 then
      ((smL u (rpL X mz true (mz - (ma + 1)) (ma + 1) PD dg).2.2 (rpL X mz true (mz - (ma + 1)) (ma + 1) PD dg).2.1 0).2, (rpL X mz true (mz - (ma + 1)) (ma + 1) PD dg).1, true, (smL u (rpL X mz true (mz - (ma + 1)) (ma + 1) PD dg).2.2 (rpL X mz true (mz - (ma + 1)) (ma + 1) PD dg).2.1 0).1, stL (smL u (rpL X mz true (mz - (ma + 1)) (ma + 1) PD dg).2.2 (rpL X mz true (mz - (ma + 1)) (ma + 1) PD dg).2.1 0).1 (rpL X mz true (mz - (ma + 1)) (ma + 1) PD dg).2.2)
    else
      ((smL u (rpL X mz false (mz - (ma + 1)) (ma + 1) PD dg).2.2 (rpL X mz false (mz - (ma + 1)) (ma + 1) PD dg).2.1 0).2, (rpL X mz false (mz - (ma + 1)) (ma + 1) PD dg).1, false, (smL u (rpL X mz false (mz - (ma + 1)) (ma + 1) PD dg).2.2 (rpL X mz false (mz - (ma + 1)) (ma + 1) PD dg).2.1 0).1, stL (smL u (rpL X mz false (mz - (ma + 1)) (ma + 1) PD dg).2.2 (rpL X mz false (mz - (ma + 1)) (ma + 1) PD dg).2.1 0).1 (rpL X mz false (mz - (ma + 1)) (ma + 1) PD dg).2.2)
  else
    ((smL u (rpL X mz true (mz - (ma + 1)) (ma + 1) PD dg).2.2 (rpL X mz true (mz - (ma + 1)) (ma + 1) PD dg).2.1 0).2, (rpL X mz true (mz - (ma + 1)) (ma + 1) PD dg).1, true, (smL u (rpL X mz true (mz - (ma + 1)) (ma + 1) PD dg).2.2 (rpL X mz true (mz - (ma + 1)) (ma + 1) PD dg).2.1 0).1, stL (smL u (rpL X mz true (mz - (ma + 1)) (ma + 1) PD dg).2.2 (rpL X mz true (mz - (ma + 1)) (ma + 1) PD dg).2.1 0).1 (rpL X mz true (mz - (ma + 1)) (ma + 1) PD dg).2.2)
set_option maxHeartbeats 4000000 in
set_option maxRecDepth 100000 in
theorem m_readPart (l : Launch) (dC : Nat → ClassId) (dI : Nat → Nat → Nat) (st sz : Nat) (q : Nat) (th : Int32) (tx : Nat) (mz : Nat) (fl : Int32) (it : Bool) (al : Int64) (pt : Nat) (dg : Nat) (ot : Nat) (wr : Nat) (kz : Nat) (ka : Nat) (kd : Nat) (kp : Nat) (ma : Nat) (wg : Bool) (c1 : ClassId) (X : Nat → Int32) (c2 : ClassId) (PD : Nat → Int32) (u : Int32) (hz : mz ≤ 242) (ha : ma ≤ 800) (hdg : dg = 0) : Met l yX5_readPart wsX5_readPart ({ frames := 1, cells := 0, slots := 0, locals := 20 }) (kc_Pc (dC, dI) kcl st sz [.ref q, .int u] [(q, .inr (5, [.int th, .ref tx, .int (nI mz), .int fl, .int (bI it), .long al, .ref pt, .int (nI dg), .ref ot, .int (nI wr), .int (nI kz), .ref ka, .ref kd, .ref kp, .int (nI ma), .int (bI wg)])), (tx, .inl (c1, 256, .inl X)), (pt, .inl (c2, 256, .inl PD))] [(c1, .int), (c2, .int)]) (kc_Qi (dC, dI) kcl (mRp X mz ma wg PD dg u).1 [(q, .inr (5, [.int th, .ref tx, .int (nI mz), .int fl, .int (bI it), .long al, .ref pt, .int (nI (mRp X mz ma wg PD dg u).2.2.2.2), .ref ot, .int (nI wr), .int (nI kz), .ref ka, .ref kd, .ref kp, .int (nI (mRp X mz ma wg PD dg u).2.1), .int (bI (mRp X mz ma wg PD dg u).2.2.1)])), (tx, .inl (c1, 256, .inl X)), (pt, .inl (c2, 256, .inl (mRp X mz ma wg PD dg u).2.2.2.1))] (va_A [(q, .inr (5, [.int th, .ref tx, .int (nI mz), .int fl, .int (bI it), .long al, .ref pt, .int (nI dg), .ref ot, .int (nI wr), .int (nI kz), .ref ka, .ref kd, .ref kp, .int (nI ma), .int (bI wg)])), (tx, .inl (c1, 256, .inl X)), (pt, .inl (c2, 256, .inl PD))] sz)) 0 0 (va_A [(q, .inr (5, [.int th, .ref tx, .int (nI mz), .int fl, .int (bI it), .long al, .ref pt, .int (nI dg), .ref ot, .int (nI wr), .int (nI kz), .ref ka, .ref kd, .ref kp, .int (nI ma), .int (bI wg)])), (tx, .inl (c1, 256, .inl X)), (pt, .inl (c2, 256, .inl PD))] sz) := by
  refine kc_ofW (Qc := fun A => (kc_Qi (dC, dI) kcl (mRp X mz ma wg PD dg u).1 [(q, .inr (5, [.int th, .ref tx, .int (nI mz), .int fl, .int (bI it), .long al, .ref pt, .int (nI (mRp X mz ma wg PD dg u).2.2.2.2), .ref ot, .int (nI wr), .int (nI kz), .ref ka, .ref kd, .ref kp, .int (nI (mRp X mz ma wg PD dg u).2.1), .int (bI (mRp X mz ma wg PD dg u).2.2.1)])), (tx, .inl (c1, 256, .inl X)), (pt, .inl (c2, 256, .inl (mRp X mz ma wg PD dg u).2.2.2.1))] A)) (cc := cX5_readPart) (maxL := 5) (ret := (some .int)) (by decide) rfl (Nat.le_of_ble_eq_true rfl) ?_
  intro p e s m below meth c A ls Cx hA hG hK hP hD hS hl
  obtain ⟨hx, hb, hr, hml, hown, hts, hlocks, hnm⟩ := id Cx
  have hl : lv_has ls 5 [(0, .ref q), (1, .int u)] := hl
  refine lv_aload_n hx hb dX5_readPart_0 rfl (lv_at hl 0 rfl) ?_
  refine lv_dup hx hb dX5_readPart_1 rfl ?_
  refine va_get (D := (dC, dI)) (ci := 5) (v := .int (nI ma)) (C := RX5) (T := TX5) (N := 16) hx hb hts kin_5 hown hK hP 0 rfl rfl 14 (by decide) (hts _ (kcm kwm_226)) (fun _ h9 => h9) rfl dX5_readPart_2 ?_
  refine lv_iconst (v := 1) hx hb dX5_readPart_5 (by decide) ?_
  refine lv_iadd hx hb dX5_readPart_6 ?_
  rw [show (nI ma) + 1 = nI (ma + 1) from nI_add ma 1]
  refine va_put (D := (dC, dI)) (ci := 5) (v := .int (nI (ma + 1))) (ty := .int) (C := RX5) (T := TX5) (N := 16) hx hb hts kin_5 tyX5 tyX5_ok nmX5 hown hK hP hD hS 0 rfl rfl 14 (by decide) (hts _ (kcm kwm_226)) (fun _ h9 => h9) rfl (by decide +kernel) rfl rfl (Nat.le_of_ble_eq_true rfl) dX5_readPart_7 (fun H locs hP hD hS => ?_)
  have hP : va_P (dC, dI) kcl [(q, .inr (5, [.int th, .ref tx, .int (nI mz), .int fl, .int (bI it), .long al, .ref pt, .int (nI dg), .ref ot, .int (nI wr), .int (nI kz), .ref ka, .ref kd, .ref kp, .int (nI (ma + 1)), .int (bI wg)])), (tx, .inl (c1, 256, .inl X)), (pt, .inl (c2, 256, .inl PD))] H := hP
  have hD : va_D A [(q, .inr (5, [.int th, .ref tx, .int (nI mz), .int fl, .int (bI it), .long al, .ref pt, .int (nI dg), .ref ot, .int (nI wr), .int (nI kz), .ref ka, .ref kd, .ref kp, .int (nI (ma + 1)), .int (bI wg)])), (tx, .inl (c1, 256, .inl X)), (pt, .inl (c2, 256, .inl PD))] := hD
  refine lv_aload_n hx hb dX5_readPart_10 rfl (lv_at hl 0 rfl) ?_
  refine lv_aload_n hx hb dX5_readPart_11 rfl (lv_at hl 0 rfl) ?_
  refine va_get (D := (dC, dI)) (ci := 5) (v := .int (bI wg)) (C := RX5) (T := TX5) (N := 16) hx hb hts kin_5 hown hK hP 0 rfl rfl 15 (by decide) (hts _ (kcm kwm_235)) (fun _ h9 => h9) rfl dX5_readPart_12 ?_
  refine lv_if_ne (tgt := 25) hx hb dX5_readPart_15 (by decide) (fun c_15 => ?_) (fun c_15 => ?_)
  · refine lv_iconst (v := 1) hx hb dX5_readPart_25 (by decide) ?_
    refine lv_goto (tgt := 30) hx hb dX5_readPart_26 (by decide) ?_
    refine va_put (D := (dC, dI)) (ci := 5) (v := .int 1) (ty := .boolean) (C := RX5) (T := TX5) (N := 16) hx hb hts kin_5 tyX5 tyX5_ok nmX5 hown hK hP hD hS 0 rfl rfl 15 (by decide) (hts _ (kcm kwm_235)) (fun _ h9 => h9) rfl (by decide +kernel) rfl rfl (Nat.le_of_ble_eq_true rfl) dX5_readPart_30 (fun H locs hP hD hS => ?_)
    have hP : va_P (dC, dI) kcl [(q, .inr (5, [.int th, .ref tx, .int (nI mz), .int fl, .int (bI it), .long al, .ref pt, .int (nI dg), .ref ot, .int (nI wr), .int (nI kz), .ref ka, .ref kd, .ref kp, .int (nI (ma + 1)), .int (bI true)])), (tx, .inl (c1, 256, .inl X)), (pt, .inl (c2, 256, .inl PD))] H := hP
    have hD : va_D A [(q, .inr (5, [.int th, .ref tx, .int (nI mz), .int fl, .int (bI it), .long al, .ref pt, .int (nI dg), .ref ot, .int (nI wr), .int (nI kz), .ref ka, .ref kd, .ref kp, .int (nI (ma + 1)), .int (bI true)])), (tx, .inl (c1, 256, .inl X)), (pt, .inl (c2, 256, .inl PD))] := hD
    have hF9 : mRp X mz ma wg PD dg u = ((smL u (rpL X mz true (mz - (ma + 1)) (ma + 1) PD dg).2.2 (rpL X mz true (mz - (ma + 1)) (ma + 1) PD dg).2.1 0).2, (rpL X mz true (mz - (ma + 1)) (ma + 1) PD dg).1, true, (smL u (rpL X mz true (mz - (ma + 1)) (ma + 1) PD dg).2.2 (rpL X mz true (mz - (ma + 1)) (ma + 1) PD dg).2.1 0).1, stL (smL u (rpL X mz true (mz - (ma + 1)) (ma + 1) PD dg).2.2 (rpL X mz true (mz - (ma + 1)) (ma + 1) PD dg).2.1 0).1 (rpL X mz true (mz - (ma + 1)) (ma + 1) PD dg).2.2) := by
      first | (simp only [mRp, if_neg c_15]; done) | rfl
    rw [hF9]
    exact lp_r1 dC dI st q th tx mz fl it al pt ot wr kz ka kd kp c1 X c2 u hz true (rpL X mz true (mz - (ma + 1)) (ma + 1) PD dg) Cx hA hG hK (mz - (ma + 1)) (ma + 1) PD dg (by omega) (by omega) (by omega) rfl H _ ls hP hD hS (lv_sub hl [0, 1] rfl)
  · refine lv_aload_n hx hb dX5_readPart_18 rfl (lv_at hl 0 rfl) ?_
    have hPc := hP.sub (ws' := [(q, .inr (5, [.int th, .ref tx, .int (nI mz), .int fl, .int (bI it), .long al, .ref pt, .int (nI dg), .ref ot, .int (nI wr), .int (nI kz), .ref ka, .ref kd, .ref kp, .int (nI (ma + 1)), .int (bI wg)])), (tx, .inl (c1, 256, .inl X))]) [0, 1] rfl
    have hDc := hD.sub (ws' := [(q, .inr (5, [.int th, .ref tx, .int (nI mz), .int fl, .int (bI it), .long al, .ref pt, .int (nI dg), .ref ot, .int (nI wr), .int (nI kz), .ref ka, .ref kd, .ref kp, .int (nI (ma + 1)), .int (bI wg)])), (tx, .inl (c1, 256, .inl X))]) [0, 1] (by decide) rfl
    have hKc := hK.sub (tys' := [(c1, .int)]) [0] rfl
    have hFc := va_free (wc := [(q, .inr (5, [.int th, .ref tx, .int (nI mz), .int fl, .int (bI it), .long al, .ref pt, .int (nI dg), .ref ot, .int (nI wr), .int (nI kz), .ref ka, .ref kd, .ref kp, .int (nI (ma + 1)), .int (bI wg)])), (tx, .inl (c1, 256, .inl X))]) hD hS hA [0, 1] rfl
    refine kc_callSi (val := bI (mDig X mz (ma + 1))) (va_runV (As := []) (rest := [.ref q]) ⟨hx, hb, hml, hown, hts⟩ (m_isDigit l dC dI st H.size q th tx mz fl it al pt dg ot wr kz ka kd kp (ma + 1) wg c1 X hz (by omega)) (cwV 0 hts (kwV kwm_228 kwm_229 kwm_230 kwm_203 kwm_227) rfl rfl rfl (by decide +kernel) ⟨Nat.le_of_ble_eq_true rfl, Nat.le_of_ble_eq_true rfl⟩) ⟨kc_blind, va_recv hKc hPc (ci := 5) (q0 := 0) rfl rfl, kc_pre hG hS hFc hKc hPc hDc⟩ rfl rfl hl.1 rfl (lv_room (Nat.le_of_ble_eq_true rfl)) dX5_readPart_19 ⟨Nat.le_of_ble_eq_true rfl, Nat.le_of_ble_eq_true rfl⟩) ?_
    refine lv_if_ne (tgt := 29) hx hb dX5_readPart_22 (by decide) (fun c_22 => ?_) (fun c_22 => ?_)
    · refine lv_iconst (v := 0) hx hb dX5_readPart_29 (by decide) ?_
      refine va_put (D := (dC, dI)) (ci := 5) (v := .int 0) (ty := .boolean) (C := RX5) (T := TX5) (N := 16) hx hb hts kin_5 tyX5 tyX5_ok nmX5 hown hK hP hD hS 0 rfl rfl 15 (by decide) (hts _ (kcm kwm_235)) (fun _ h9 => h9) rfl (by decide +kernel) rfl rfl (Nat.le_of_ble_eq_true rfl) dX5_readPart_30 (fun H locs hP hD hS => ?_)
      have hP : va_P (dC, dI) kcl [(q, .inr (5, [.int th, .ref tx, .int (nI mz), .int fl, .int (bI it), .long al, .ref pt, .int (nI dg), .ref ot, .int (nI wr), .int (nI kz), .ref ka, .ref kd, .ref kp, .int (nI (ma + 1)), .int (bI false)])), (tx, .inl (c1, 256, .inl X)), (pt, .inl (c2, 256, .inl PD))] H := hP
      have hD : va_D A [(q, .inr (5, [.int th, .ref tx, .int (nI mz), .int fl, .int (bI it), .long al, .ref pt, .int (nI dg), .ref ot, .int (nI wr), .int (nI kz), .ref ka, .ref kd, .ref kp, .int (nI (ma + 1)), .int (bI false)])), (tx, .inl (c1, 256, .inl X)), (pt, .inl (c2, 256, .inl PD))] := hD
      have hF9 : mRp X mz ma wg PD dg u = ((smL u (rpL X mz false (mz - (ma + 1)) (ma + 1) PD dg).2.2 (rpL X mz false (mz - (ma + 1)) (ma + 1) PD dg).2.1 0).2, (rpL X mz false (mz - (ma + 1)) (ma + 1) PD dg).1, false, (smL u (rpL X mz false (mz - (ma + 1)) (ma + 1) PD dg).2.2 (rpL X mz false (mz - (ma + 1)) (ma + 1) PD dg).2.1 0).1, stL (smL u (rpL X mz false (mz - (ma + 1)) (ma + 1) PD dg).2.2 (rpL X mz false (mz - (ma + 1)) (ma + 1) PD dg).2.1 0).1 (rpL X mz false (mz - (ma + 1)) (ma + 1) PD dg).2.2) := by
        first | (simp only [mRp, if_pos c_15, if_neg c_22]; done) | rfl
      rw [hF9]
      exact lp_r1 dC dI st q th tx mz fl it al pt ot wr kz ka kd kp c1 X c2 u hz false (rpL X mz false (mz - (ma + 1)) (ma + 1) PD dg) Cx hA hG hK (mz - (ma + 1)) (ma + 1) PD dg (by omega) (by omega) (by omega) rfl H _ ls hP hD hS (lv_sub hl [0, 1] rfl)
    · refine lv_iconst (v := 1) hx hb dX5_readPart_25 (by decide) ?_
      refine lv_goto (tgt := 30) hx hb dX5_readPart_26 (by decide) ?_
      refine va_put (D := (dC, dI)) (ci := 5) (v := .int 1) (ty := .boolean) (C := RX5) (T := TX5) (N := 16) hx hb hts kin_5 tyX5 tyX5_ok nmX5 hown hK hP hD hS 0 rfl rfl 15 (by decide) (hts _ (kcm kwm_235)) (fun _ h9 => h9) rfl (by decide +kernel) rfl rfl (Nat.le_of_ble_eq_true rfl) dX5_readPart_30 (fun H locs hP hD hS => ?_)
      have hP : va_P (dC, dI) kcl [(q, .inr (5, [.int th, .ref tx, .int (nI mz), .int fl, .int (bI it), .long al, .ref pt, .int (nI dg), .ref ot, .int (nI wr), .int (nI kz), .ref ka, .ref kd, .ref kp, .int (nI (ma + 1)), .int (bI true)])), (tx, .inl (c1, 256, .inl X)), (pt, .inl (c2, 256, .inl PD))] H := hP
      have hD : va_D A [(q, .inr (5, [.int th, .ref tx, .int (nI mz), .int fl, .int (bI it), .long al, .ref pt, .int (nI dg), .ref ot, .int (nI wr), .int (nI kz), .ref ka, .ref kd, .ref kp, .int (nI (ma + 1)), .int (bI true)])), (tx, .inl (c1, 256, .inl X)), (pt, .inl (c2, 256, .inl PD))] := hD
      have hF9 : mRp X mz ma wg PD dg u = ((smL u (rpL X mz true (mz - (ma + 1)) (ma + 1) PD dg).2.2 (rpL X mz true (mz - (ma + 1)) (ma + 1) PD dg).2.1 0).2, (rpL X mz true (mz - (ma + 1)) (ma + 1) PD dg).1, true, (smL u (rpL X mz true (mz - (ma + 1)) (ma + 1) PD dg).2.2 (rpL X mz true (mz - (ma + 1)) (ma + 1) PD dg).2.1 0).1, stL (smL u (rpL X mz true (mz - (ma + 1)) (ma + 1) PD dg).2.2 (rpL X mz true (mz - (ma + 1)) (ma + 1) PD dg).2.1 0).1 (rpL X mz true (mz - (ma + 1)) (ma + 1) PD dg).2.2) := by
        first | (simp only [mRp, if_pos c_15, if_pos c_22]; done) | rfl
      rw [hF9]
      exact lp_r1 dC dI st q th tx mz fl it al pt ot wr kz ka kd kp c1 X c2 u hz true (rpL X mz true (mz - (ma + 1)) (ma + 1) PD dg) Cx hA hG hK (mz - (ma + 1)) (ma + 1) PD dg (by omega) (by omega) (by omega) rfl H _ ls hP hD hS (lv_sub hl [0, 1] rfl)
