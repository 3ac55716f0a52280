abbrev cX5_write : ByteArray := prog_7_method_24_code
def yX5_write : MethodName := ⟨RX5, "write", "(I)V"⟩
abbrev wsX5_write : List Cond := .code yX5_write cX5_write 3 none :: kw
theorem kwm_272 : (.code yX5_put cX5_put 5 none : Cond) ∈ kw := kw_in (i := 670) (by decide +kernel) (by decide +kernel)
theorem kwm_273 : (.methodLink RX5 124 yX5_put : Cond) ∈ kw := kw_in (i := 667) (by decide +kernel) (by decide +kernel)
theorem kwm_274 : (.instanceMethod yX5_put : Cond) ∈ kw := kw_in (i := 669) (by decide +kernel) (by decide +kernel)
theorem kwm_275 : (.selects RX5 yX5_put yX5_put : Cond) ∈ kw := kw_in (i := 29) (by decide +kernel) (by decide +kernel)
theorem kwm_276 : (.code yX5_unitOf cX5_unitOf 3 (some .int) : Cond) ∈ kw := kw_in (i := 655) (by decide +kernel) (by decide +kernel)
theorem kwm_277 : (.methodLink RX5 121 yX5_unitOf : Cond) ∈ kw := kw_in (i := 652) (by decide +kernel) (by decide +kernel)
theorem kwm_278 : (.instanceMethod yX5_unitOf : Cond) ∈ kw := kw_in (i := 654) (by decide +kernel) (by decide +kernel)
theorem kwm_279 : (.selects RX5 yX5_unitOf yX5_unitOf : Cond) ∈ kw := kw_in (i := 26) (by decide +kernel) (by decide +kernel)
theorem dX5_write_0 : decode cX5_write 0 = .ok (.aload_n 0, 1) := by decide +kernel
theorem dX5_write_1 : decode cX5_write 1 = .ok (.aload_n 0, 1) := by decide +kernel
theorem dX5_write_2 : decode cX5_write 2 = .ok (.iconst 0, 1) := by decide +kernel
theorem dX5_write_3 : decode cX5_write 3 = .ok (.invokevirtual 121, 3) := by decide +kernel
theorem dX5_write_6 : decode cX5_write 6 = .ok (.iload_n 1, 1) := by decide +kernel
theorem dX5_write_7 : decode cX5_write 7 = .ok (.ifCond .ne 7, 3) := by decide +kernel
theorem dX5_write_10 : decode cX5_write 10 = .ok (.iconst 2, 1) := by decide +kernel
theorem dX5_write_11 : decode cX5_write 11 = .ok (.goto 4, 3) := by decide +kernel
theorem dX5_write_14 : decode cX5_write 14 = .ok (.iconst 4, 1) := by decide +kernel
theorem dX5_write_15 : decode cX5_write 15 = .ok (.invokevirtual 124, 3) := by decide +kernel
theorem dX5_write_18 : decode cX5_write 18 = .ok (.iconst 1, 1) := by decide +kernel
theorem dX5_write_19 : decode cX5_write 19 = .ok (.istore_n 2, 1) := by decide +kernel
theorem dX5_write_20 : decode cX5_write 20 = .ok (.iload_n 2, 1) := by decide +kernel
theorem dX5_write_21 : decode cX5_write 21 = .ok (.bipush 6, 2) := by decide +kernel
theorem dX5_write_23 : decode cX5_write 23 = .ok (.if_icmp .ge 19, 3) := by decide +kernel
theorem dX5_write_26 : decode cX5_write 26 = .ok (.aload_n 0, 1) := by decide +kernel
theorem dX5_write_27 : decode cX5_write 27 = .ok (.aload_n 0, 1) := by decide +kernel
theorem dX5_write_28 : decode cX5_write 28 = .ok (.iload_n 2, 1) := by decide +kernel
theorem dX5_write_29 : decode cX5_write 29 = .ok (.invokevirtual 121, 3) := by decide +kernel
theorem dX5_write_32 : decode cX5_write 32 = .ok (.iconst 2, 1) := by decide +kernel
theorem dX5_write_33 : decode cX5_write 33 = .ok (.invokevirtual 124, 3) := by decide +kernel
theorem dX5_write_36 : decode cX5_write 36 = .ok (.iinc 2 1, 3) := by decide +kernel
theorem dX5_write_39 : decode cX5_write 39 = .ok (.goto (-19), 3) := by decide +kernel
theorem dX5_write_42 : decode cX5_write 42 = .ok (.aload_n 0, 1) := by decide +kernel
theorem dX5_write_43 : decode cX5_write 43 = .ok (.getfield 79, 3) := by decide +kernel
theorem dX5_write_46 : decode cX5_write 46 = .ok (.ifCond .le 24, 3) := by decide +kernel
theorem dX5_write_49 : decode cX5_write 49 = .ok (.aload_n 0, 1) := by decide +kernel
theorem dX5_write_50 : decode cX5_write 50 = .ok (.getfield 16, 3) := by decide +kernel
theorem dX5_write_53 : decode cX5_write 53 = .ok (.aload_n 0, 1) := by decide +kernel
theorem dX5_write_54 : decode cX5_write 54 = .ok (.getfield 112, 3) := by decide +kernel
theorem dX5_write_57 : decode cX5_write 57 = .ok (.bipush 46, 2) := by decide +kernel
theorem dX5_write_59 : decode cX5_write 59 = .ok (.iastore, 1) := by decide +kernel
theorem dX5_write_60 : decode cX5_write 60 = .ok (.aload_n 0, 1) := by decide +kernel
theorem dX5_write_61 : decode cX5_write 61 = .ok (.dup, 1) := by decide +kernel
theorem dX5_write_62 : decode cX5_write 62 = .ok (.getfield 112, 3) := by decide +kernel
theorem dX5_write_65 : decode cX5_write 65 = .ok (.iconst 1, 1) := by decide +kernel
theorem dX5_write_66 : decode cX5_write 66 = .ok (.iadd, 1) := by decide +kernel
theorem dX5_write_67 : decode cX5_write 67 = .ok (.putfield 112, 3) := by decide +kernel
theorem dX5_write_70 : decode cX5_write 70 = .ok (.iconst 0, 1) := by decide +kernel
theorem dX5_write_71 : decode cX5_write 71 = .ok (.istore_n 2, 1) := by decide +kernel
theorem dX5_write_72 : decode cX5_write 72 = .ok (.iload_n 2, 1) := by decide +kernel
theorem dX5_write_73 : decode cX5_write 73 = .ok (.aload_n 0, 1) := by decide +kernel
theorem dX5_write_74 : decode cX5_write 74 = .ok (.getfield 79, 3) := by decide +kernel
theorem dX5_write_77 : decode cX5_write 77 = .ok (.if_icmp .ge 20, 3) := by decide +kernel
theorem dX5_write_80 : decode cX5_write 80 = .ok (.aload_n 0, 1) := by decide +kernel
theorem dX5_write_81 : decode cX5_write 81 = .ok (.aload_n 0, 1) := by decide +kernel
theorem dX5_write_82 : decode cX5_write 82 = .ok (.getfield 13, 3) := by decide +kernel
theorem dX5_write_85 : decode cX5_write 85 = .ok (.iload_n 2, 1) := by decide +kernel
theorem dX5_write_86 : decode cX5_write 86 = .ok (.iaload, 1) := by decide +kernel
theorem dX5_write_87 : decode cX5_write 87 = .ok (.iconst 1, 1) := by decide +kernel
theorem dX5_write_88 : decode cX5_write 88 = .ok (.invokevirtual 124, 3) := by decide +kernel
theorem dX5_write_91 : decode cX5_write 91 = .ok (.iinc 2 1, 3) := by decide +kernel
theorem dX5_write_94 : decode cX5_write 94 = .ok (.goto (-22), 3) := by decide +kernel
theorem dX5_write_97 : decode cX5_write 97 = .ok (.aload_n 0, 1) := by decide +kernel
theorem dX5_write_98 : decode cX5_write 98 = .ok (.getfield 16, 3) := by decide +kernel
theorem dX5_write_101 : decode cX5_write 101 = .ok (.aload_n 0, 1) := by decide +kernel
theorem dX5_write_102 : decode cX5_write 102 = .ok (.getfield 112, 3) := by decide +kernel
theorem dX5_write_105 : decode cX5_write 105 = .ok (.bipush 90, 2) := by decide +kernel
theorem dX5_write_107 : decode cX5_write 107 = .ok (.iastore, 1) := by decide +kernel
theorem dX5_write_108 : decode cX5_write 108 = .ok (.aload_n 0, 1) := by decide +kernel
theorem dX5_write_109 : decode cX5_write 109 = .ok (.dup, 1) := by decide +kernel
theorem dX5_write_110 : decode cX5_write 110 = .ok (.getfield 112, 3) := by decide +kernel
theorem dX5_write_113 : decode cX5_write 113 = .ok (.iconst 1, 1) := by decide +kernel
theorem dX5_write_114 : decode cX5_write 114 = .ok (.iadd, 1) := by decide +kernel
theorem dX5_write_115 : decode cX5_write 115 = .ok (.putfield 112, 3) := by decide +kernel
theorem dX5_write_118 : decode cX5_write 118 = .ok (.return_, 1) := by decide +kernel
set_option maxHeartbeats 4000000 in
set_option maxRecDepth 100000 in
theorem lp_wri {p : Program} {l : Launch} {e : Env} {s : State} {m : MethodId} {below : List Frame} {meth : Method} {c : Code} (dC : Nat → ClassId) (dI : Nat → Nat → Nat) (st : Nat) {A : Nat → Prop} (q : Nat) (th : Int32) (tx : Nat) (mz : Nat) (fl : Int32) (it : Bool) (al : Int64) (pt : Nat) (dg : Nat) (ot : Nat) (kz : Nat) (ka : Nat) (kd : Nat) (kp : Nat) (ma : Nat) (wg : Bool) (c2 : ClassId) (PD : Nat → Int32) (c3 : ClassId) (kind : Int32) (T : (Nat → Int32) × Nat) (hdg : dg ≤ 240) (Cx : kc_Cx yX5_write cX5_write none 3 wsX5_write p s m ([.ref q, .int kind] : List Value).toArray meth c) (hA : ∀ q, s.heap.size ≤ q → A q) (hG : kg st A s) (hK : va_K (dC, dI) kcl [(c2, .int), (c3, .int)] s) :
    ∀ (N : Nat) (i : Nat) (U : Nat → Int32) (wr : Nat) (hi : i ≤ dg) (hN : dg ≤ i + N) (hw : wr + N ≤ 255) (hT : wpL PD dg N i U wr = T) (H : Heap) (locs : List Loc) (ls : Array Slot), va_P (dC, dI) kcl [(q, .inr (5, [.int th, .ref tx, .int (nI mz), .int fl, .int (bI it), .long al, .ref pt, .int (nI dg), .ref ot, .int (nI wr), .int (nI kz), .ref ka, .ref kd, .ref kp, .int (nI ma), .int (bI wg)])), (pt, .inl (c2, 256, .inl PD)), (ot, .inl (c3, 256, .inl U))] H → va_D A [(q, .inr (5, [.int th, .ref tx, .int (nI mz), .int fl, .int (bI it), .long al, .ref pt, .int (nI dg), .ref ot, .int (nI wr), .int (nI kz), .ref ka, .ref kd, .ref kp, .int (nI ma), .int (bI wg)])), (pt, .inl (c2, 256, .inl PD)), (ot, .inl (c3, 256, .inl U))] → va_S A s.heap H locs → lv_has ls 3 [(0, .ref q), (1, .int kind), (2, .int (nI i))] → W p l e ({ frames := 4, cells := 0, slots := 0, locals := 87 }) s m ([.ref q, .int kind] : List Value).toArray below meth c H locs 0 0 (MQ below (kc_Qv (dC, dI) kcl [(q, .inr (5, [.int th, .ref tx, .int (nI mz), .int fl, .int (bI it), .long al, .ref pt, .int (nI dg), .ref ot, .int (nI (T.2 + 1)), .int (nI kz), .ref ka, .ref kd, .ref kp, .int (nI ma), .int (bI wg)])), (pt, .inl (c2, 256, .inl PD)), (ot, .inl (c3, 256, .inl (upd T.1 T.2 90)))] A) ([.ref q, .int kind] : List Value).toArray s 0 0 A) (F0 m 72 ls []) := by
  obtain ⟨hx, hb, hr, hml, hown, hts, hlocks, hnm⟩ := Cx
  intro N
  induction N with
  | zero =>
    intro i U wr hi hN hw hT H locs ls hP hD hS hl
    refine lv_iload_n hx hb dX5_write_72 rfl (lv_at hl 2 rfl) ?_
    refine lv_aload_n hx hb dX5_write_73 rfl (lv_at hl 0 rfl) ?_
    refine va_get (D := (dC, dI)) (ci := 5) (v := .int (nI dg)) (C := RX5) (T := TX5) (N := 16) hx hb hts kin_5 hown hK hP 0 rfl rfl 7 (by decide) (hts _ (kcm kwm_236)) (fun _ h9 => h9) rfl dX5_write_74 ?_
    refine lv_icmp_ge (tgt := 97) hx hb dX5_write_77 (by decide) (fun c_77 => ?_) (fun c_77 => ?_)
    · have hT : (U, wr) = T := hT
      refine lv_aload_n hx hb dX5_write_97 rfl (lv_at hl 0 rfl) ?_
      refine va_get (D := (dC, dI)) (ci := 5) (v := .ref ot) (C := RX5) (T := TX5) (N := 16) hx hb hts kin_5 hown hK hP 0 rfl rfl 8 (by decide) (hts _ (kcm kwm_270)) (fun _ h9 => h9) rfl dX5_write_98 ?_
      refine lv_aload_n hx hb dX5_write_101 rfl (lv_at hl 0 rfl) ?_
      refine va_get (D := (dC, dI)) (ci := 5) (v := .int (nI wr)) (C := RX5) (T := TX5) (N := 16) hx hb hts kin_5 hown hK hP 0 rfl rfl 9 (by decide) (hts _ (kcm kwm_271)) (fun _ h9 => h9) rfl dX5_write_102 ?_
      refine lv_bipush (v := 90) hx hb dX5_write_105 (by decide) ?_
      refine va_iast hx hb hK hP hD hS 2 1 rfl rfl (vp_in_nI (by omega) (by decide)) dX5_write_107 (fun H locs hP hD hS => ?_)
      rw [show (nI wr).toNatClampNeg = wr from nI_clamp (by omega)] at hP hD
      have hP : va_P (dC, dI) kcl [(q, .inr (5, [.int th, .ref tx, .int (nI mz), .int fl, .int (bI it), .long al, .ref pt, .int (nI dg), .ref ot, .int (nI wr), .int (nI kz), .ref ka, .ref kd, .ref kp, .int (nI ma), .int (bI wg)])), (pt, .inl (c2, 256, .inl PD)), (ot, .inl (c3, 256, .inl (upd U wr 90)))] H := hP
      have hD : va_D A [(q, .inr (5, [.int th, .ref tx, .int (nI mz), .int fl, .int (bI it), .long al, .ref pt, .int (nI dg), .ref ot, .int (nI wr), .int (nI kz), .ref ka, .ref kd, .ref kp, .int (nI ma), .int (bI wg)])), (pt, .inl (c2, 256, .inl PD)), (ot, .inl (c3, 256, .inl (upd U wr 90)))] := hD
      refine lv_aload_n hx hb dX5_write_108 rfl (lv_at hl 0 rfl) ?_
      refine lv_dup hx hb dX5_write_109 rfl ?_
      refine va_get (D := (dC, dI)) (ci := 5) (v := .int (nI wr)) (C := RX5) (T := TX5) (N := 16) hx hb hts kin_5 hown hK hP 0 rfl rfl 9 (by decide) (hts _ (kcm kwm_271)) (fun _ h9 => h9) rfl dX5_write_110 ?_
      refine lv_iconst (v := 1) hx hb dX5_write_113 (by decide) ?_
      refine lv_iadd hx hb dX5_write_114 ?_
      rw [show (nI wr) + 1 = nI (wr + 1) from nI_add wr 1]
      refine va_put (D := (dC, dI)) (ci := 5) (v := .int (nI (wr + 1))) (ty := .int) (C := RX5) (T := TX5) (N := 16) hx hb hts kin_5 tyX5 tyX5_ok nmX5 hown hK hP hD hS 0 rfl rfl 9 (by decide) (hts _ (kcm kwm_271)) (fun _ h9 => h9) rfl (by decide +kernel) rfl rfl (Nat.le_of_ble_eq_true rfl) dX5_write_115 (fun H locs hP hD hS => ?_)
      have hP : va_P (dC, dI) kcl [(q, .inr (5, [.int th, .ref tx, .int (nI mz), .int fl, .int (bI it), .long al, .ref pt, .int (nI dg), .ref ot, .int (nI (wr + 1)), .int (nI kz), .ref ka, .ref kd, .ref kp, .int (nI ma), .int (bI wg)])), (pt, .inl (c2, 256, .inl PD)), (ot, .inl (c3, 256, .inl (upd U wr 90)))] H := hP
      have hD : va_D A [(q, .inr (5, [.int th, .ref tx, .int (nI mz), .int fl, .int (bI it), .long al, .ref pt, .int (nI dg), .ref ot, .int (nI (wr + 1)), .int (nI kz), .ref ka, .ref kd, .ref kp, .int (nI ma), .int (bI wg)])), (pt, .inl (c2, 256, .inl PD)), (ot, .inl (c3, 256, .inl (upd U wr 90)))] := hD
      have hP9 : va_P (dC, dI) kcl [(q, .inr (5, [.int th, .ref tx, .int (nI mz), .int fl, .int (bI it), .long al, .ref pt, .int (nI dg), .ref ot, .int (nI (T.2 + 1)), .int (nI kz), .ref ka, .ref kd, .ref kp, .int (nI ma), .int (bI wg)])), (pt, .inl (c2, 256, .inl PD)), (ot, .inl (c3, 256, .inl (upd T.1 T.2 90)))] H := by
        rw [← hT]
        exact hP.sub [0, 1, 2] rfl
      have hD9 : va_D A [(q, .inr (5, [.int th, .ref tx, .int (nI mz), .int fl, .int (bI it), .long al, .ref pt, .int (nI dg), .ref ot, .int (nI (T.2 + 1)), .int (nI kz), .ref ka, .ref kd, .ref kp, .int (nI ma), .int (bI wg)])), (pt, .inl (c2, 256, .inl PD)), (ot, .inl (c3, 256, .inl (upd T.1 T.2 90)))] := by
        rw [← hT]
        exact hD.sub [0, 1, 2] (by decide) rfl
      exact kc_vret hx hb hr hlocks hP9 hD9 hS dX5_write_118
    · exact absurd (nI_le (show dg ≤ i by omega) (by omega)) c_77
  | succ N ih =>
    intro i U wr hi hN hw hT H locs ls hP hD hS hl
    refine lv_iload_n hx hb dX5_write_72 rfl (lv_at hl 2 rfl) ?_
    refine lv_aload_n hx hb dX5_write_73 rfl (lv_at hl 0 rfl) ?_
    refine va_get (D := (dC, dI)) (ci := 5) (v := .int (nI dg)) (C := RX5) (T := TX5) (N := 16) hx hb hts kin_5 hown hK hP 0 rfl rfl 7 (by decide) (hts _ (kcm kwm_236)) (fun _ h9 => h9) rfl dX5_write_74 ?_
    refine lv_icmp_ge (tgt := 97) hx hb dX5_write_77 (by decide) (fun c_77 => ?_) (fun c_77 => ?_)
    · have hT : (U, wr) = T := by rw [← hT]; exact (if_pos (show dg ≤ i by have := kb_ge c_77 (by omega); omega)).symm
      refine lv_aload_n hx hb dX5_write_97 rfl (lv_at hl 0 rfl) ?_
      refine va_get (D := (dC, dI)) (ci := 5) (v := .ref ot) (C := RX5) (T := TX5) (N := 16) hx hb hts kin_5 hown hK hP 0 rfl rfl 8 (by decide) (hts _ (kcm kwm_270)) (fun _ h9 => h9) rfl dX5_write_98 ?_
      refine lv_aload_n hx hb dX5_write_101 rfl (lv_at hl 0 rfl) ?_
      refine va_get (D := (dC, dI)) (ci := 5) (v := .int (nI wr)) (C := RX5) (T := TX5) (N := 16) hx hb hts kin_5 hown hK hP 0 rfl rfl 9 (by decide) (hts _ (kcm kwm_271)) (fun _ h9 => h9) rfl dX5_write_102 ?_
      refine lv_bipush (v := 90) hx hb dX5_write_105 (by decide) ?_
      refine va_iast hx hb hK hP hD hS 2 1 rfl rfl (vp_in_nI (by omega) (by decide)) dX5_write_107 (fun H locs hP hD hS => ?_)
      rw [show (nI wr).toNatClampNeg = wr from nI_clamp (by omega)] at hP hD
      have hP : va_P (dC, dI) kcl [(q, .inr (5, [.int th, .ref tx, .int (nI mz), .int fl, .int (bI it), .long al, .ref pt, .int (nI dg), .ref ot, .int (nI wr), .int (nI kz), .ref ka, .ref kd, .ref kp, .int (nI ma), .int (bI wg)])), (pt, .inl (c2, 256, .inl PD)), (ot, .inl (c3, 256, .inl (upd U wr 90)))] H := hP
      have hD : va_D A [(q, .inr (5, [.int th, .ref tx, .int (nI mz), .int fl, .int (bI it), .long al, .ref pt, .int (nI dg), .ref ot, .int (nI wr), .int (nI kz), .ref ka, .ref kd, .ref kp, .int (nI ma), .int (bI wg)])), (pt, .inl (c2, 256, .inl PD)), (ot, .inl (c3, 256, .inl (upd U wr 90)))] := hD
      refine lv_aload_n hx hb dX5_write_108 rfl (lv_at hl 0 rfl) ?_
      refine lv_dup hx hb dX5_write_109 rfl ?_
      refine va_get (D := (dC, dI)) (ci := 5) (v := .int (nI wr)) (C := RX5) (T := TX5) (N := 16) hx hb hts kin_5 hown hK hP 0 rfl rfl 9 (by decide) (hts _ (kcm kwm_271)) (fun _ h9 => h9) rfl dX5_write_110 ?_
      refine lv_iconst (v := 1) hx hb dX5_write_113 (by decide) ?_
      refine lv_iadd hx hb dX5_write_114 ?_
      rw [show (nI wr) + 1 = nI (wr + 1) from nI_add wr 1]
      refine va_put (D := (dC, dI)) (ci := 5) (v := .int (nI (wr + 1))) (ty := .int) (C := RX5) (T := TX5) (N := 16) hx hb hts kin_5 tyX5 tyX5_ok nmX5 hown hK hP hD hS 0 rfl rfl 9 (by decide) (hts _ (kcm kwm_271)) (fun _ h9 => h9) rfl (by decide +kernel) rfl rfl (Nat.le_of_ble_eq_true rfl) dX5_write_115 (fun H locs hP hD hS => ?_)
      have hP : va_P (dC, dI) kcl [(q, .inr (5, [.int th, .ref tx, .int (nI mz), .int fl, .int (bI it), .long al, .ref pt, .int (nI dg), .ref ot, .int (nI (wr + 1)), .int (nI kz), .ref ka, .ref kd, .ref kp, .int (nI ma), .int (bI wg)])), (pt, .inl (c2, 256, .inl PD)), (ot, .inl (c3, 256, .inl (upd U wr 90)))] H := hP
      have hD : va_D A [(q, .inr (5, [.int th, .ref tx, .int (nI mz), .int fl, .int (bI it), .long al, .ref pt, .int (nI dg), .ref ot, .int (nI (wr + 1)), .int (nI kz), .ref ka, .ref kd, .ref kp, .int (nI ma), .int (bI wg)])), (pt, .inl (c2, 256, .inl PD)), (ot, .inl (c3, 256, .inl (upd U wr 90)))] := hD
      have hP9 : va_P (dC, dI) kcl [(q, .inr (5, [.int th, .ref tx, .int (nI mz), .int fl, .int (bI it), .long al, .ref pt, .int (nI dg), .ref ot, .int (nI (T.2 + 1)), .int (nI kz), .ref ka, .ref kd, .ref kp, .int (nI ma), .int (bI wg)])), (pt, .inl (c2, 256, .inl PD)), (ot, .inl (c3, 256, .inl (upd T.1 T.2 90)))] H := by
        rw [← hT]
        exact hP.sub [0, 1, 2] rfl
      have hD9 : va_D A [(q, .inr (5, [.int th, .ref tx, .int (nI mz), .int fl, .int (bI it), .long al, .ref pt, .int (nI dg), .ref ot, .int (nI (T.2 + 1)), .int (nI kz), .ref ka, .ref kd, .ref kp, .int (nI ma), .int (bI wg)])), (pt, .inl (c2, 256, .inl PD)), (ot, .inl (c3, 256, .inl (upd T.1 T.2 90)))] := by
        rw [← hT]
        exact hD.sub [0, 1, 2] (by decide) rfl
      exact kc_vret hx hb hr hlocks hP9 hD9 hS dX5_write_118
    · have hlt : i < dg := kb_lt c_77 (by omega)
      have hlt9 : ¬ dg ≤ i := by omega
      refine lv_aload_n hx hb dX5_write_80 rfl (lv_at hl 0 rfl) ?_
      refine lv_aload_n hx hb dX5_write_81 rfl (lv_at hl 0 rfl) ?_
      refine va_get (D := (dC, dI)) (ci := 5) (v := .ref pt) (C := RX5) (T := TX5) (N := 16) hx hb hts kin_5 hown hK hP 0 rfl rfl 6 (by decide) (hts _ (kcm kwm_237)) (fun _ h9 => h9) rfl dX5_write_82 ?_
      refine lv_iload_n hx hb dX5_write_85 rfl (lv_at hl 2 rfl) ?_
      refine va_iald hx hb hK hP 1 0 rfl rfl (vp_in_nI (by omega) (by decide)) dX5_write_86 ?_
      rw [show (nI i).toNatClampNeg = i from nI_clamp (by omega)]
      refine lv_iconst (v := 1) hx hb dX5_write_87 (by decide) ?_
      have hPc := hP.sub (ws' := [(q, .inr (5, [.int th, .ref tx, .int (nI mz), .int fl, .int (bI it), .long al, .ref pt, .int (nI dg), .ref ot, .int (nI wr), .int (nI kz), .ref ka, .ref kd, .ref kp, .int (nI ma), .int (bI wg)])), (ot, .inl (c3, 256, .inl U))]) [0, 2] rfl
      have hDc := hD.sub (ws' := [(q, .inr (5, [.int th, .ref tx, .int (nI mz), .int fl, .int (bI it), .long al, .ref pt, .int (nI dg), .ref ot, .int (nI wr), .int (nI kz), .ref ka, .ref kd, .ref kp, .int (nI ma), .int (bI wg)])), (ot, .inl (c3, 256, .inl U))]) [0, 2] (by decide) rfl
      have hKc := hK.sub (tys' := [(c3, .int)]) [1] rfl
      have hFc := va_free (wc := [(q, .inr (5, [.int th, .ref tx, .int (nI mz), .int fl, .int (bI it), .long al, .ref pt, .int (nI dg), .ref ot, .int (nI wr), .int (nI kz), .ref ka, .ref kd, .ref kp, .int (nI ma), .int (bI wg)])), (ot, .inl (c3, 256, .inl U))]) hD hS hA [0, 2] rfl
      refine kc_callv (wr := [(pt, .inl (c2, 256, .inl PD))]) (w1 := [(q, .inr (5, [.int th, .ref tx, .int (nI mz), .int fl, .int (bI it), .long al, .ref pt, .int (nI dg), .ref ot, .int (nI (mPut1 U wr (PD i)).2), .int (nI kz), .ref ka, .ref kd, .ref kp, .int (nI ma), .int (bI wg)])), (ot, .inl (c3, 256, .inl (mPut1 U wr (PD i)).1))]) (va_runV (As := [.int (PD i), .int 1]) (rest := []) ⟨hx, hb, hml, hown, hts⟩ (m_put1 l dC dI st H.size q th tx mz fl it al pt dg ot wr kz ka kd kp ma wg c3 U (PD i) (by omega)) (cwV 2 hts (kwV kwm_273 kwm_274 kwm_275 kwm_203 kwm_272) rfl rfl rfl (by decide +kernel) ⟨Nat.le_of_ble_eq_true rfl, Nat.le_of_ble_eq_true rfl⟩) ⟨kc_blind, va_recv hKc hPc (ci := 5) (q0 := 0) rfl rfl, kc_pre hG hS hFc hKc hPc hDc⟩ rfl rfl hl.1 rfl (lv_room (Nat.le_of_ble_eq_true rfl)) dX5_write_88 ⟨Nat.le_of_ble_eq_true rfl, Nat.le_of_ble_eq_true rfl⟩) hP hD hS hFc [0, 2] [1] rfl rfl (by decide) (by decide) (fun H locs hP hD hS => ?_)
      have hP : va_P (dC, dI) kcl [(pt, .inl (c2, 256, .inl PD)), (q, .inr (5, [.int th, .ref tx, .int (nI mz), .int fl, .int (bI it), .long al, .ref pt, .int (nI dg), .ref ot, .int (nI (mPut1 U wr (PD i)).2), .int (nI kz), .ref ka, .ref kd, .ref kp, .int (nI ma), .int (bI wg)])), (ot, .inl (c3, 256, .inl (mPut1 U wr (PD i)).1))] H := hP
      have hD : va_D A [(pt, .inl (c2, 256, .inl PD)), (q, .inr (5, [.int th, .ref tx, .int (nI mz), .int fl, .int (bI it), .long al, .ref pt, .int (nI dg), .ref ot, .int (nI (mPut1 U wr (PD i)).2), .int (nI kz), .ref ka, .ref kd, .ref kp, .int (nI ma), .int (bI wg)])), (ot, .inl (c3, 256, .inl (mPut1 U wr (PD i)).1))] := hD
      generalize e_88 : mPut1 U wr (PD i) = v_88 at hP hD ⊢
      have hP : va_P (dC, dI) kcl [(pt, .inl (c2, 256, .inl PD)), (q, .inr (5, [.int th, .ref tx, .int (nI mz), .int fl, .int (bI it), .long al, .ref pt, .int (nI dg), .ref ot, .int (nI v_88.2), .int (nI kz), .ref ka, .ref kd, .ref kp, .int (nI ma), .int (bI wg)])), (ot, .inl (c3, 256, .inl v_88.1))] H := hP
      have hD : va_D A [(pt, .inl (c2, 256, .inl PD)), (q, .inr (5, [.int th, .ref tx, .int (nI mz), .int fl, .int (bI it), .long al, .ref pt, .int (nI dg), .ref ot, .int (nI v_88.2), .int (nI kz), .ref ka, .ref kd, .ref kp, .int (nI ma), .int (bI wg)])), (ot, .inl (c3, 256, .inl v_88.1))] := hD
      refine lv_iinc (v := (nI i) + 1) (lv' := [(2, .int ((nI i) + 1)), (0, .ref q), (1, .int kind)]) hx hb dX5_write_91 hl (k := 2) rfl (congrArg (fun z => (nI i) + z) (show Int32.ofInt (1) = (1 : Int32) by decide)) (by decide) rfl (fun ls hl => ?_)
      refine lv_goto (tgt := 72) hx hb dX5_write_94 (by decide) ?_
      subst e_88
      rw [nI_1] at hl
      exact ih (i + 1) _ _ (by omega) (by omega) (show wr + 1 + N ≤ 255 by omega) (by rw [← hT]; exact (if_neg hlt9).symm) H locs ls (hP.sub [1, 0, 2] rfl) (hD.sub [1, 0, 2] (by decide) rfl) hS (lv_sub hl [1, 2, 0] rfl)
def mWrite (al : Int64) (dg : Nat) (PD : Nat → Int32) (kind : Int32) (U : Nat → Int32) (wr : Nat) : (Nat → Int32) × Nat :=
  if kind = 0 then
    let v_15 := mPut2 U wr (mUnit al dg 0)
    let v_33 := mPut2 v_15.1 v_15.2 (mUnit al dg 1)
    let v_33a := mPut2 v_33.1 v_33.2 (mUnit al dg 2)
    let v_33aa := mPut2 v_33a.1 v_33a.2 (mUnit al dg 3)
    let v_33aaa := mPut2 v_33aa.1 v_33aa.2 (mUnit al dg 4)
    let v_33aaaa := mPut2 v_33aaa.1 v_33aaa.2 (mUnit al dg 5)
    if (nI dg) ≤ 0 then
      (upd (wpL PD dg dg 0 v_33aaaa.1 v_33aaaa.2).1 (wpL PD dg dg 0 v_33aaaa.1 v_33aaaa.2).2 90, (wpL PD dg dg 0 v_33aaaa.1 v_33aaaa.2).2 + 1)
    else
      (upd (wpL PD dg dg 0 (upd v_33aaaa.1 v_33aaaa.2 46) (v_33aaaa.2 + 1)).1 (wpL PD dg dg 0 (upd v_33aaaa.1 v_33aaaa.2 46) (v_33aaaa.2 + 1)).2 90, (wpL PD dg dg 0 (upd v_33aaaa.1 v_33aaaa.2 46) (v_33aaaa.2 + 1)).2 + 1)
  else
    let v_15 := mPut4 U wr (mUnit al dg 0)
    let v_33 := mPut2 v_15.1 v_15.2 (mUnit al dg 1)
    let v_33a := mPut2 v_33.1 v_33.2 (mUnit al dg 2)
    let v_33aa := mPut2 v_33a.1 v_33a.2 (mUnit al dg 3)
    let v_33aaa := mPut2 v_33aa.1 v_33aa.2 (mUnit al dg 4)
    let v_33aaaa := mPut2 v_33aaa.1 v_33aaa.2 (mUnit al dg 5)
    if (nI dg) ≤ 0 then
      (upd (wpL PD dg dg 0 v_33aaaa.1 v_33aaaa.2).1 (wpL PD dg dg 0 v_33aaaa.1 v_33aaaa.2).2 90, (wpL PD dg dg 0 v_33aaaa.1 v_33aaaa.2).2 + 1)
    else
      (upd (wpL PD dg dg 0 (upd v_33aaaa.1 v_33aaaa.2 46) (v_33aaaa.2 + 1)).1 (wpL PD dg dg 0 (upd v_33aaaa.1 v_33aaaa.2 46) (v_33aaaa.2 + 1)).2 90, (wpL PD dg dg 0 (upd v_33aaaa.1 v_33aaaa.2 46) (v_33aaaa.2 + 1)).2 + 1)
set_option maxHeartbeats 4000000 in
set_option maxRecDepth 100000 in
theorem m_write (l : Launch) (dC : Nat → ClassId) (dI : Nat → Nat → Nat) (st sz : Nat) (q : Nat) (th : Int32) (tx : Nat) (mz : Nat) (fl : Int32) (it : Bool) (al : Int64) (pt : Nat) (dg : Nat) (ot : Nat) (wr : Nat) (kz : Nat) (ka : Nat) (kd : Nat) (kp : Nat) (ma : Nat) (wg : Bool) (c2 : ClassId) (PD : Nat → Int32) (c3 : ClassId) (U : Nat → Int32) (kind : Int32) (hY : (yrL (mDay al) 10100 (mDay al / 366)).isSome = true) (hM : (moL (yrF (mDay al)) 13 (mDay al - mTo (yrF (mDay al))) 1).isSome = true) (hM2 : moF al ≤ 12) (hdg : dg ≤ 240) (hwr : wr = 0) : Met l yX5_write wsX5_write ({ frames := 4, cells := 0, slots := 0, locals := 87 }) (kc_Pc (dC, dI) kcl st sz [.ref q, .int kind] [(q, .inr (5, [.int th, .ref tx, .int (nI mz), .int fl, .int (bI it), .long al, .ref pt, .int (nI dg), .ref ot, .int (nI wr), .int (nI kz), .ref ka, .ref kd, .ref kp, .int (nI ma), .int (bI wg)])), (pt, .inl (c2, 256, .inl PD)), (ot, .inl (c3, 256, .inl U))] [(c2, .int), (c3, .int)]) (kc_Qv (dC, dI) kcl [(q, .inr (5, [.int th, .ref tx, .int (nI mz), .int fl, .int (bI it), .long al, .ref pt, .int (nI dg), .ref ot, .int (nI (mWrite al dg PD kind U wr).2), .int (nI kz), .ref ka, .ref kd, .ref kp, .int (nI ma), .int (bI wg)])), (pt, .inl (c2, 256, .inl PD)), (ot, .inl (c3, 256, .inl (mWrite al dg PD kind U wr).1))] (va_A [(q, .inr (5, [.int th, .ref tx, .int (nI mz), .int fl, .int (bI it), .long al, .ref pt, .int (nI dg), .ref ot, .int (nI wr), .int (nI kz), .ref ka, .ref kd, .ref kp, .int (nI ma), .int (bI wg)])), (pt, .inl (c2, 256, .inl PD)), (ot, .inl (c3, 256, .inl U))] sz)) 0 0 (va_A [(q, .inr (5, [.int th, .ref tx, .int (nI mz), .int fl, .int (bI it), .long al, .ref pt, .int (nI dg), .ref ot, .int (nI wr), .int (nI kz), .ref ka, .ref kd, .ref kp, .int (nI ma), .int (bI wg)])), (pt, .inl (c2, 256, .inl PD)), (ot, .inl (c3, 256, .inl U))] sz) := by
  refine kc_ofW (Qc := fun A => (kc_Qv (dC, dI) kcl [(q, .inr (5, [.int th, .ref tx, .int (nI mz), .int fl, .int (bI it), .long al, .ref pt, .int (nI dg), .ref ot, .int (nI (mWrite al dg PD kind U wr).2), .int (nI kz), .ref ka, .ref kd, .ref kp, .int (nI ma), .int (bI wg)])), (pt, .inl (c2, 256, .inl PD)), (ot, .inl (c3, 256, .inl (mWrite al dg PD kind U wr).1))] A)) (cc := cX5_write) (maxL := 3) (ret := none) (by decide) rfl (Nat.le_of_ble_eq_true rfl) ?_
  intro p e s m below meth c A ls Cx hA hG hK hP hD hS hl
  obtain ⟨hx, hb, hr, hml, hown, hts, hlocks, hnm⟩ := id Cx
  have hl : lv_has ls 3 [(0, .ref q), (1, .int kind)] := hl
  refine lv_aload_n hx hb dX5_write_0 rfl (lv_at hl 0 rfl) ?_
  refine lv_aload_n hx hb dX5_write_1 rfl (lv_at hl 0 rfl) ?_
  refine lv_iconst (v := 0) hx hb dX5_write_2 (by decide) ?_
  have hPc := hP.sub (ws' := [(q, .inr (5, [.int th, .ref tx, .int (nI mz), .int fl, .int (bI it), .long al, .ref pt, .int (nI dg), .ref ot, .int (nI wr), .int (nI kz), .ref ka, .ref kd, .ref kp, .int (nI ma), .int (bI wg)]))]) [0] rfl
  have hDc := hD.sub (ws' := [(q, .inr (5, [.int th, .ref tx, .int (nI mz), .int fl, .int (bI it), .long al, .ref pt, .int (nI dg), .ref ot, .int (nI wr), .int (nI kz), .ref ka, .ref kd, .ref kp, .int (nI ma), .int (bI wg)]))]) [0] (by decide) rfl
  have hKc := hK.sub (tys' := []) [] rfl
  have hFc := va_free (wc := [(q, .inr (5, [.int th, .ref tx, .int (nI mz), .int fl, .int (bI it), .long al, .ref pt, .int (nI dg), .ref ot, .int (nI wr), .int (nI kz), .ref ka, .ref kd, .ref kp, .int (nI ma), .int (bI wg)]))]) hD hS hA [0] rfl
  refine kc_callSi (val := mUnit al dg 0) (va_runV (As := [.int 0]) (rest := [.ref q]) ⟨hx, hb, hml, hown, hts⟩ (m_unitOf l dC dI st s.heap.size q th tx mz fl it al pt dg ot wr kz ka kd kp ma wg 0 hY hM hM2) (cwV 1 hts (kwV kwm_277 kwm_278 kwm_279 kwm_203 kwm_276) rfl rfl rfl (by decide +kernel) ⟨Nat.le_of_ble_eq_true rfl, Nat.le_of_ble_eq_true rfl⟩) ⟨kc_blind, va_recv hKc hPc (ci := 5) (q0 := 0) rfl rfl, kc_pre hG hS hFc hKc hPc hDc⟩ rfl rfl hl.1 rfl (lv_room (Nat.le_of_ble_eq_true rfl)) dX5_write_3 ⟨Nat.le_of_ble_eq_true rfl, Nat.le_of_ble_eq_true rfl⟩) ?_
  refine lv_iload_n hx hb dX5_write_6 rfl (lv_at hl 1 rfl) ?_
  refine lv_if_ne (tgt := 14) hx hb dX5_write_7 (by decide) (fun c_7 => ?_) (fun c_7 => ?_)
  · refine lv_iconst (v := 4) hx hb dX5_write_14 (by decide) ?_
    have hPc := hP.sub (ws' := [(q, .inr (5, [.int th, .ref tx, .int (nI mz), .int fl, .int (bI it), .long al, .ref pt, .int (nI dg), .ref ot, .int (nI wr), .int (nI kz), .ref ka, .ref kd, .ref kp, .int (nI ma), .int (bI wg)])), (ot, .inl (c3, 256, .inl U))]) [0, 2] rfl
    have hDc := hD.sub (ws' := [(q, .inr (5, [.int th, .ref tx, .int (nI mz), .int fl, .int (bI it), .long al, .ref pt, .int (nI dg), .ref ot, .int (nI wr), .int (nI kz), .ref ka, .ref kd, .ref kp, .int (nI ma), .int (bI wg)])), (ot, .inl (c3, 256, .inl U))]) [0, 2] (by decide) rfl
    have hKc := hK.sub (tys' := [(c3, .int)]) [1] rfl
    have hFc := va_free (wc := [(q, .inr (5, [.int th, .ref tx, .int (nI mz), .int fl, .int (bI it), .long al, .ref pt, .int (nI dg), .ref ot, .int (nI wr), .int (nI kz), .ref ka, .ref kd, .ref kp, .int (nI ma), .int (bI wg)])), (ot, .inl (c3, 256, .inl U))]) hD hS hA [0, 2] rfl
    refine kc_callv (wr := [(pt, .inl (c2, 256, .inl PD))]) (w1 := [(q, .inr (5, [.int th, .ref tx, .int (nI mz), .int fl, .int (bI it), .long al, .ref pt, .int (nI dg), .ref ot, .int (nI (mPut4 U wr (mUnit al dg 0)).2), .int (nI kz), .ref ka, .ref kd, .ref kp, .int (nI ma), .int (bI wg)])), (ot, .inl (c3, 256, .inl (mPut4 U wr (mUnit al dg 0)).1))]) (va_runV (As := [.int (mUnit al dg 0), .int 4]) (rest := []) ⟨hx, hb, hml, hown, hts⟩ (m_put4 l dC dI st s.heap.size q th tx mz fl it al pt dg ot wr kz ka kd kp ma wg c3 U (mUnit al dg 0) (by omega)) (cwV 2 hts (kwV kwm_273 kwm_274 kwm_275 kwm_203 kwm_272) rfl rfl rfl (by decide +kernel) ⟨Nat.le_of_ble_eq_true rfl, Nat.le_of_ble_eq_true rfl⟩) ⟨kc_blind, va_recv hKc hPc (ci := 5) (q0 := 0) rfl rfl, kc_pre hG hS hFc hKc hPc hDc⟩ rfl rfl hl.1 rfl (lv_room (Nat.le_of_ble_eq_true rfl)) dX5_write_15 ⟨Nat.le_of_ble_eq_true rfl, Nat.le_of_ble_eq_true rfl⟩) hP hD hS hFc [0, 2] [1] rfl rfl (by decide) (by decide) (fun H locs hP hD hS => ?_)
    have hP : va_P (dC, dI) kcl [(pt, .inl (c2, 256, .inl PD)), (q, .inr (5, [.int th, .ref tx, .int (nI mz), .int fl, .int (bI it), .long al, .ref pt, .int (nI dg), .ref ot, .int (nI (mPut4 U wr (mUnit al dg 0)).2), .int (nI kz), .ref ka, .ref kd, .ref kp, .int (nI ma), .int (bI wg)])), (ot, .inl (c3, 256, .inl (mPut4 U wr (mUnit al dg 0)).1))] H := hP
    have hD : va_D A [(pt, .inl (c2, 256, .inl PD)), (q, .inr (5, [.int th, .ref tx, .int (nI mz), .int fl, .int (bI it), .long al, .ref pt, .int (nI dg), .ref ot, .int (nI (mPut4 U wr (mUnit al dg 0)).2), .int (nI kz), .ref ka, .ref kd, .ref kp, .int (nI ma), .int (bI wg)])), (ot, .inl (c3, 256, .inl (mPut4 U wr (mUnit al dg 0)).1))] := hD
    generalize e_15 : mPut4 U wr (mUnit al dg 0) = v_15 at hP hD ⊢
    have hP : va_P (dC, dI) kcl [(pt, .inl (c2, 256, .inl PD)), (q, .inr (5, [.int th, .ref tx, .int (nI mz), .int fl, .int (bI it), .long al, .ref pt, .int (nI dg), .ref ot, .int (nI v_15.2), .int (nI kz), .ref ka, .ref kd, .ref kp, .int (nI ma), .int (bI wg)])), (ot, .inl (c3, 256, .inl v_15.1))] H := hP
    have hD : va_D A [(pt, .inl (c2, 256, .inl PD)), (q, .inr (5, [.int th, .ref tx, .int (nI mz), .int fl, .int (bI it), .long al, .ref pt, .int (nI dg), .ref ot, .int (nI v_15.2), .int (nI kz), .ref ka, .ref kd, .ref kp, .int (nI ma), .int (bI wg)])), (ot, .inl (c3, 256, .inl v_15.1))] := hD
    have hp15 : v_15.2 = wr + 1 + 1 + 1 + 1 := by rw [← e_15]; rfl
    refine lv_iconst (v := 1) hx hb dX5_write_18 (by decide) ?_
    refine lv_istore_n (lv' := [(2, .int 1), (0, .ref q), (1, .int kind)]) hx hb dX5_write_19 rfl hl (by decide) rfl (fun ls hl => ?_)
    refine lv_iload_n hx hb dX5_write_20 rfl (lv_at hl 0 rfl) ?_
    refine lv_bipush (v := 6) hx hb dX5_write_21 (by decide) ?_
    refine lv_icmp_ge (tgt := 42) hx hb dX5_write_23 (by decide) (fun c_23 => ?_) (fun c_23 => ?_)
    · exact absurd c_23 (by decide)
    · refine lv_aload_n hx hb dX5_write_26 rfl (lv_at hl 1 rfl) ?_
      refine lv_aload_n hx hb dX5_write_27 rfl (lv_at hl 1 rfl) ?_
      refine lv_iload_n hx hb dX5_write_28 rfl (lv_at hl 0 rfl) ?_
      have hPc := hP.sub (ws' := [(q, .inr (5, [.int th, .ref tx, .int (nI mz), .int fl, .int (bI it), .long al, .ref pt, .int (nI dg), .ref ot, .int (nI v_15.2), .int (nI kz), .ref ka, .ref kd, .ref kp, .int (nI ma), .int (bI wg)]))]) [1] rfl
      have hDc := hD.sub (ws' := [(q, .inr (5, [.int th, .ref tx, .int (nI mz), .int fl, .int (bI it), .long al, .ref pt, .int (nI dg), .ref ot, .int (nI v_15.2), .int (nI kz), .ref ka, .ref kd, .ref kp, .int (nI ma), .int (bI wg)]))]) [1] (by decide) rfl
      have hKc := hK.sub (tys' := []) [] rfl
      have hFc := va_free (wc := [(q, .inr (5, [.int th, .ref tx, .int (nI mz), .int fl, .int (bI it), .long al, .ref pt, .int (nI dg), .ref ot, .int (nI v_15.2), .int (nI kz), .ref ka, .ref kd, .ref kp, .int (nI ma), .int (bI wg)]))]) hD hS hA [1] rfl
      refine kc_callSi (val := mUnit al dg 1) (va_runV (As := [.int 1]) (rest := [.ref q]) ⟨hx, hb, hml, hown, hts⟩ (m_unitOf l dC dI st H.size q th tx mz fl it al pt dg ot v_15.2 kz ka kd kp ma wg 1 hY hM hM2) (cwV 1 hts (kwV kwm_277 kwm_278 kwm_279 kwm_203 kwm_276) rfl rfl rfl (by decide +kernel) ⟨Nat.le_of_ble_eq_true rfl, Nat.le_of_ble_eq_true rfl⟩) ⟨kc_blind, va_recv hKc hPc (ci := 5) (q0 := 0) rfl rfl, kc_pre hG hS hFc hKc hPc hDc⟩ rfl rfl hl.1 rfl (lv_room (Nat.le_of_ble_eq_true rfl)) dX5_write_29 ⟨Nat.le_of_ble_eq_true rfl, Nat.le_of_ble_eq_true rfl⟩) ?_
      refine lv_iconst (v := 2) hx hb dX5_write_32 (by decide) ?_
      have hPc := hP.sub (ws' := [(q, .inr (5, [.int th, .ref tx, .int (nI mz), .int fl, .int (bI it), .long al, .ref pt, .int (nI dg), .ref ot, .int (nI v_15.2), .int (nI kz), .ref ka, .ref kd, .ref kp, .int (nI ma), .int (bI wg)])), (ot, .inl (c3, 256, .inl v_15.1))]) [1, 2] rfl
      have hDc := hD.sub (ws' := [(q, .inr (5, [.int th, .ref tx, .int (nI mz), .int fl, .int (bI it), .long al, .ref pt, .int (nI dg), .ref ot, .int (nI v_15.2), .int (nI kz), .ref ka, .ref kd, .ref kp, .int (nI ma), .int (bI wg)])), (ot, .inl (c3, 256, .inl v_15.1))]) [1, 2] (by decide) rfl
      have hKc := hK.sub (tys' := [(c3, .int)]) [1] rfl
      have hFc := va_free (wc := [(q, .inr (5, [.int th, .ref tx, .int (nI mz), .int fl, .int (bI it), .long al, .ref pt, .int (nI dg), .ref ot, .int (nI v_15.2), .int (nI kz), .ref ka, .ref kd, .ref kp, .int (nI ma), .int (bI wg)])), (ot, .inl (c3, 256, .inl v_15.1))]) hD hS hA [1, 2] rfl
      refine kc_callv (wr := [(pt, .inl (c2, 256, .inl PD))]) (w1 := [(q, .inr (5, [.int th, .ref tx, .int (nI mz), .int fl, .int (bI it), .long al, .ref pt, .int (nI dg), .ref ot, .int (nI (mPut2 v_15.1 v_15.2 (mUnit al dg 1)).2), .int (nI kz), .ref ka, .ref kd, .ref kp, .int (nI ma), .int (bI wg)])), (ot, .inl (c3, 256, .inl (mPut2 v_15.1 v_15.2 (mUnit al dg 1)).1))]) (va_runV (As := [.int (mUnit al dg 1), .int 2]) (rest := []) ⟨hx, hb, hml, hown, hts⟩ (m_put2 l dC dI st H.size q th tx mz fl it al pt dg ot v_15.2 kz ka kd kp ma wg c3 v_15.1 (mUnit al dg 1) (by omega)) (cwV 2 hts (kwV kwm_273 kwm_274 kwm_275 kwm_203 kwm_272) rfl rfl rfl (by decide +kernel) ⟨Nat.le_of_ble_eq_true rfl, Nat.le_of_ble_eq_true rfl⟩) ⟨kc_blind, va_recv hKc hPc (ci := 5) (q0 := 0) rfl rfl, kc_pre hG hS hFc hKc hPc hDc⟩ rfl rfl hl.1 rfl (lv_room (Nat.le_of_ble_eq_true rfl)) dX5_write_33 ⟨Nat.le_of_ble_eq_true rfl, Nat.le_of_ble_eq_true rfl⟩) hP hD hS hFc [1, 2] [0] rfl rfl (by decide) (by decide) (fun H locs hP hD hS => ?_)
      have hP : va_P (dC, dI) kcl [(pt, .inl (c2, 256, .inl PD)), (q, .inr (5, [.int th, .ref tx, .int (nI mz), .int fl, .int (bI it), .long al, .ref pt, .int (nI dg), .ref ot, .int (nI (mPut2 v_15.1 v_15.2 (mUnit al dg 1)).2), .int (nI kz), .ref ka, .ref kd, .ref kp, .int (nI ma), .int (bI wg)])), (ot, .inl (c3, 256, .inl (mPut2 v_15.1 v_15.2 (mUnit al dg 1)).1))] H := hP
      have hD : va_D A [(pt, .inl (c2, 256, .inl PD)), (q, .inr (5, [.int th, .ref tx, .int (nI mz), .int fl, .int (bI it), .long al, .ref pt, .int (nI dg), .ref ot, .int (nI (mPut2 v_15.1 v_15.2 (mUnit al dg 1)).2), .int (nI kz), .ref ka, .ref kd, .ref kp, .int (nI ma), .int (bI wg)])), (ot, .inl (c3, 256, .inl (mPut2 v_15.1 v_15.2 (mUnit al dg 1)).1))] := hD
      generalize e_33 : mPut2 v_15.1 v_15.2 (mUnit al dg 1) = v_33 at hP hD ⊢
      have hP : va_P (dC, dI) kcl [(pt, .inl (c2, 256, .inl PD)), (q, .inr (5, [.int th, .ref tx, .int (nI mz), .int fl, .int (bI it), .long al, .ref pt, .int (nI dg), .ref ot, .int (nI v_33.2), .int (nI kz), .ref ka, .ref kd, .ref kp, .int (nI ma), .int (bI wg)])), (ot, .inl (c3, 256, .inl v_33.1))] H := hP
      have hD : va_D A [(pt, .inl (c2, 256, .inl PD)), (q, .inr (5, [.int th, .ref tx, .int (nI mz), .int fl, .int (bI it), .long al, .ref pt, .int (nI dg), .ref ot, .int (nI v_33.2), .int (nI kz), .ref ka, .ref kd, .ref kp, .int (nI ma), .int (bI wg)])), (ot, .inl (c3, 256, .inl v_33.1))] := hD
      have hp33 : v_33.2 = v_15.2 + 1 + 1 := by rw [← e_33]; rfl
      refine lv_iinc (v := 2) (lv' := [(2, .int 2), (0, .ref q), (1, .int kind)]) hx hb dX5_write_36 hl (k := 0) rfl (by decide) (by decide) rfl (fun ls hl => ?_)
      refine lv_goto (tgt := 20) hx hb dX5_write_39 (by decide) ?_
      refine lv_iload_n hx hb dX5_write_20 rfl (lv_at hl 0 rfl) ?_
      refine lv_bipush (v := 6) hx hb dX5_write_21 (by decide) ?_
      refine lv_icmp_ge (tgt := 42) hx hb dX5_write_23 (by decide) (fun c_23 => ?_) (fun c_23 => ?_)
      · exact absurd c_23 (by decide)
      · refine lv_aload_n hx hb dX5_write_26 rfl (lv_at hl 1 rfl) ?_
        refine lv_aload_n hx hb dX5_write_27 rfl (lv_at hl 1 rfl) ?_
        refine lv_iload_n hx hb dX5_write_28 rfl (lv_at hl 0 rfl) ?_
        have hPc := hP.sub (ws' := [(q, .inr (5, [.int th, .ref tx, .int (nI mz), .int fl, .int (bI it), .long al, .ref pt, .int (nI dg), .ref ot, .int (nI v_33.2), .int (nI kz), .ref ka, .ref kd, .ref kp, .int (nI ma), .int (bI wg)]))]) [1] rfl
        have hDc := hD.sub (ws' := [(q, .inr (5, [.int th, .ref tx, .int (nI mz), .int fl, .int (bI it), .long al, .ref pt, .int (nI dg), .ref ot, .int (nI v_33.2), .int (nI kz), .ref ka, .ref kd, .ref kp, .int (nI ma), .int (bI wg)]))]) [1] (by decide) rfl
        have hKc := hK.sub (tys' := []) [] rfl
        have hFc := va_free (wc := [(q, .inr (5, [.int th, .ref tx, .int (nI mz), .int fl, .int (bI it), .long al, .ref pt, .int (nI dg), .ref ot, .int (nI v_33.2), .int (nI kz), .ref ka, .ref kd, .ref kp, .int (nI ma), .int (bI wg)]))]) hD hS hA [1] rfl
        refine kc_callSi (val := mUnit al dg 2) (va_runV (As := [.int 2]) (rest := [.ref q]) ⟨hx, hb, hml, hown, hts⟩ (m_unitOf l dC dI st H.size q th tx mz fl it al pt dg ot v_33.2 kz ka kd kp ma wg 2 hY hM hM2) (cwV 1 hts (kwV kwm_277 kwm_278 kwm_279 kwm_203 kwm_276) rfl rfl rfl (by decide +kernel) ⟨Nat.le_of_ble_eq_true rfl, Nat.le_of_ble_eq_true rfl⟩) ⟨kc_blind, va_recv hKc hPc (ci := 5) (q0 := 0) rfl rfl, kc_pre hG hS hFc hKc hPc hDc⟩ rfl rfl hl.1 rfl (lv_room (Nat.le_of_ble_eq_true rfl)) dX5_write_29 ⟨Nat.le_of_ble_eq_true rfl, Nat.le_of_ble_eq_true rfl⟩) ?_
        refine lv_iconst (v := 2) hx hb dX5_write_32 (by decide) ?_
        have hPc := hP.sub (ws' := [(q, .inr (5, [.int th, .ref tx, .int (nI mz), .int fl, .int (bI it), .long al, .ref pt, .int (nI dg), .ref ot, .int (nI v_33.2), .int (nI kz), .ref ka, .ref kd, .ref kp, .int (nI ma), .int (bI wg)])), (ot, .inl (c3, 256, .inl v_33.1))]) [1, 2] rfl
        have hDc := hD.sub (ws' := [(q, .inr (5, [.int th, .ref tx, .int (nI mz), .int fl, .int (bI it), .long al, .ref pt, .int (nI dg), .ref ot, .int (nI v_33.2), .int (nI kz), .ref ka, .ref kd, .ref kp, .int (nI ma), .int (bI wg)])), (ot, .inl (c3, 256, .inl v_33.1))]) [1, 2] (by decide) rfl
        have hKc := hK.sub (tys' := [(c3, .int)]) [1] rfl
        have hFc := va_free (wc := [(q, .inr (5, [.int th, .ref tx, .int (nI mz), .int fl, .int (bI it), .long al, .ref pt, .int (nI dg), .ref ot, .int (nI v_33.2), .int (nI kz), .ref ka, .ref kd, .ref kp, .int (nI ma), .int (bI wg)])), (ot, .inl (c3, 256, .inl v_33.1))]) hD hS hA [1, 2] rfl
        refine kc_callv (wr := [(pt, .inl (c2, 256, .inl PD))]) (w1 := [(q, .inr (5, [.int th, .ref tx, .int (nI mz), .int fl, .int (bI it), .long al, .ref pt, .int (nI dg), .ref ot, .int (nI (mPut2 v_33.1 v_33.2 (mUnit al dg 2)).2), .int (nI kz), .ref ka, .ref kd, .ref kp, .int (nI ma), .int (bI wg)])), (ot, .inl (c3, 256, .inl (mPut2 v_33.1 v_33.2 (mUnit al dg 2)).1))]) (va_runV (As := [.int (mUnit al dg 2), .int 2]) (rest := []) ⟨hx, hb, hml, hown, hts⟩ (m_put2 l dC dI st H.size q th tx mz fl it al pt dg ot v_33.2 kz ka kd kp ma wg c3 v_33.1 (mUnit al dg 2) (by omega)) (cwV 2 hts (kwV kwm_273 kwm_274 kwm_275 kwm_203 kwm_272) rfl rfl rfl (by decide +kernel) ⟨Nat.le_of_ble_eq_true rfl, Nat.le_of_ble_eq_true rfl⟩) ⟨kc_blind, va_recv hKc hPc (ci := 5) (q0 := 0) rfl rfl, kc_pre hG hS hFc hKc hPc hDc⟩ rfl rfl hl.1 rfl (lv_room (Nat.le_of_ble_eq_true rfl)) dX5_write_33 ⟨Nat.le_of_ble_eq_true rfl, Nat.le_of_ble_eq_true rfl⟩) hP hD hS hFc [1, 2] [0] rfl rfl (by decide) (by decide) (fun H locs hP hD hS => ?_)
        have hP : va_P (dC, dI) kcl [(pt, .inl (c2, 256, .inl PD)), (q, .inr (5, [.int th, .ref tx, .int (nI mz), .int fl, .int (bI it), .long al, .ref pt, .int (nI dg), .ref ot, .int (nI (mPut2 v_33.1 v_33.2 (mUnit al dg 2)).2), .int (nI kz), .ref ka, .ref kd, .ref kp, .int (nI ma), .int (bI wg)])), (ot, .inl (c3, 256, .inl (mPut2 v_33.1 v_33.2 (mUnit al dg 2)).1))] H := hP
        have hD : va_D A [(pt, .inl (c2, 256, .inl PD)), (q, .inr (5, [.int th, .ref tx, .int (nI mz), .int fl, .int (bI it), .long al, .ref pt, .int (nI dg), .ref ot, .int (nI (mPut2 v_33.1 v_33.2 (mUnit al dg 2)).2), .int (nI kz), .ref ka, .ref kd, .ref kp, .int (nI ma), .int (bI wg)])), (ot, .inl (c3, 256, .inl (mPut2 v_33.1 v_33.2 (mUnit al dg 2)).1))] := hD
        generalize e_33a : mPut2 v_33.1 v_33.2 (mUnit al dg 2) = v_33a at hP hD ⊢
        have hP : va_P (dC, dI) kcl [(pt, .inl (c2, 256, .inl PD)), (q, .inr (5, [.int th, .ref tx, .int (nI mz), .int fl, .int (bI it), .long al, .ref pt, .int (nI dg), .ref ot, .int (nI v_33a.2), .int (nI kz), .ref ka, .ref kd, .ref kp, .int (nI ma), .int (bI wg)])), (ot, .inl (c3, 256, .inl v_33a.1))] H := hP
        have hD : va_D A [(pt, .inl (c2, 256, .inl PD)), (q, .inr (5, [.int th, .ref tx, .int (nI mz), .int fl, .int (bI it), .long al, .ref pt, .int (nI dg), .ref ot, .int (nI v_33a.2), .int (nI kz), .ref ka, .ref kd, .ref kp, .int (nI ma), .int (bI wg)])), (ot, .inl (c3, 256, .inl v_33a.1))] := hD
        have hp33a : v_33a.2 = v_33.2 + 1 + 1 := by rw [← e_33a]; rfl
        refine lv_iinc (v := 3) (lv' := [(2, .int 3), (0, .ref q), (1, .int kind)]) hx hb dX5_write_36 hl (k := 0) rfl (by decide) (by decide) rfl (fun ls hl => ?_)
        refine lv_goto (tgt := 20) hx hb dX5_write_39 (by decide) ?_
        refine lv_iload_n hx hb dX5_write_20 rfl (lv_at hl 0 rfl) ?_
        refine lv_bipush (v := 6) hx hb dX5_write_21 (by decide) ?_
        refine lv_icmp_ge (tgt := 42) hx hb dX5_write_23 (by decide) (fun c_23 => ?_) (fun c_23 => ?_)
        · exact absurd c_23 (by decide)
        · refine lv_aload_n hx hb dX5_write_26 rfl (lv_at hl 1 rfl) ?_
          refine lv_aload_n hx hb dX5_write_27 rfl (lv_at hl 1 rfl) ?_
          refine lv_iload_n hx hb dX5_write_28 rfl (lv_at hl 0 rfl) ?_
          have hPc := hP.sub (ws' := [(q, .inr (5, [.int th, .ref tx, .int (nI mz), .int fl, .int (bI it), .long al, .ref pt, .int (nI dg), .ref ot, .int (nI v_33a.2), .int (nI kz), .ref ka, .ref kd, .ref kp, .int (nI ma), .int (bI wg)]))]) [1] rfl
          have hDc := hD.sub (ws' := [(q, .inr (5, [.int th, .ref tx, .int (nI mz), .int fl, .int (bI it), .long al, .ref pt, .int (nI dg), .ref ot, .int (nI v_33a.2), .int (nI kz), .ref ka, .ref kd, .ref kp, .int (nI ma), .int (bI wg)]))]) [1] (by decide) rfl
          have hKc := hK.sub (tys' := []) [] rfl
          have hFc := va_free (wc := [(q, .inr (5, [.int th, .ref tx, .int (nI mz), .int fl, .int (bI it), .long al, .ref pt, .int (nI dg), .ref ot, .int (nI v_33a.2), .int (nI kz), .ref ka, .ref kd, .ref kp, .int (nI ma), .int (bI wg)]))]) hD hS hA [1] rfl
          refine kc_callSi (val := mUnit al dg 3) (va_runV (As := [.int 3]) (rest := [.ref q]) ⟨hx, hb, hml, hown, hts⟩ (m_unitOf l dC dI st H.size q th tx mz fl it al pt dg ot v_33a.2 kz ka kd kp ma wg 3 hY hM hM2) (cwV 1 hts (kwV kwm_277 kwm_278 kwm_279 kwm_203 kwm_276) rfl rfl rfl (by decide +kernel) ⟨Nat.le_of_ble_eq_true rfl, Nat.le_of_ble_eq_true rfl⟩) ⟨kc_blind, va_recv hKc hPc (ci := 5) (q0 := 0) rfl rfl, kc_pre hG hS hFc hKc hPc hDc⟩ rfl rfl hl.1 rfl (lv_room (Nat.le_of_ble_eq_true rfl)) dX5_write_29 ⟨Nat.le_of_ble_eq_true rfl, Nat.le_of_ble_eq_true rfl⟩) ?_
          refine lv_iconst (v := 2) hx hb dX5_write_32 (by decide) ?_
          have hPc := hP.sub (ws' := [(q, .inr (5, [.int th, .ref tx, .int (nI mz), .int fl, .int (bI it), .long al, .ref pt, .int (nI dg), .ref ot, .int (nI v_33a.2), .int (nI kz), .ref ka, .ref kd, .ref kp, .int (nI ma), .int (bI wg)])), (ot, .inl (c3, 256, .inl v_33a.1))]) [1, 2] rfl
          have hDc := hD.sub (ws' := [(q, .inr (5, [.int th, .ref tx, .int (nI mz), .int fl, .int (bI it), .long al, .ref pt, .int (nI dg), .ref ot, .int (nI v_33a.2), .int (nI kz), .ref ka, .ref kd, .ref kp, .int (nI ma), .int (bI wg)])), (ot, .inl (c3, 256, .inl v_33a.1))]) [1, 2] (by decide) rfl
          have hKc := hK.sub (tys' := [(c3, .int)]) [1] rfl
          have hFc := va_free (wc := [(q, .inr (5, [.int th, .ref tx, .int (nI mz), .int fl, .int (bI it), .long al, .ref pt, .int (nI dg), .ref ot, .int (nI v_33a.2), .int (nI kz), .ref ka, .ref kd, .ref kp, .int (nI ma), .int (bI wg)])), (ot, .inl (c3, 256, .inl v_33a.1))]) hD hS hA [1, 2] rfl
          refine kc_callv (wr := [(pt, .inl (c2, 256, .inl PD))]) (w1 := [(q, .inr (5, [.int th, .ref tx, .int (nI mz), .int fl, .int (bI it), .long al, .ref pt, .int (nI dg), .ref ot, .int (nI (mPut2 v_33a.1 v_33a.2 (mUnit al dg 3)).2), .int (nI kz), .ref ka, .ref kd, .ref kp, .int (nI ma), .int (bI wg)])), (ot, .inl (c3, 256, .inl (mPut2 v_33a.1 v_33a.2 (mUnit al dg 3)).1))]) (va_runV (As := [.int (mUnit al dg 3), .int 2]) (rest := []) ⟨hx, hb, hml, hown, hts⟩ (m_put2 l dC dI st H.size q th tx mz fl it al pt dg ot v_33a.2 kz ka kd kp ma wg c3 v_33a.1 (mUnit al dg 3) (by omega)) (cwV 2 hts (kwV kwm_273 kwm_274 kwm_275 kwm_203 kwm_272) rfl rfl rfl (by decide +kernel) ⟨Nat.le_of_ble_eq_true rfl, Nat.le_of_ble_eq_true rfl⟩) ⟨kc_blind, va_recv hKc hPc (ci := 5) (q0 := 0) rfl rfl, kc_pre hG hS hFc hKc hPc hDc⟩ rfl rfl hl.1 rfl (lv_room (Nat.le_of_ble_eq_true rfl)) dX5_write_33 ⟨Nat.le_of_ble_eq_true rfl, Nat.le_of_ble_eq_true rfl⟩) hP hD hS hFc [1, 2] [0] rfl rfl (by decide) (by decide) (fun H locs hP hD hS => ?_)
          have hP : va_P (dC, dI) kcl [(pt, .inl (c2, 256, .inl PD)), (q, .inr (5, [.int th, .ref tx, .int (nI mz), .int fl, .int (bI it), .long al, .ref pt, .int (nI dg), .ref ot, .int (nI (mPut2 v_33a.1 v_33a.2 (mUnit al dg 3)).2), .int (nI kz), .ref ka, .ref kd, .ref kp, .int (nI ma), .int (bI wg)])), (ot, .inl (c3, 256, .inl (mPut2 v_33a.1 v_33a.2 (mUnit al dg 3)).1))] H := hP
          have hD : va_D A [(pt, .inl (c2, 256, .inl PD)), (q, .inr (5, [.int th, .ref tx, .int (nI mz), .int fl, .int (bI it), .long al, .ref pt, .int (nI dg), .ref ot, .int (nI (mPut2 v_33a.1 v_33a.2 (mUnit al dg 3)).2), .int (nI kz), .ref ka, .ref kd, .ref kp, .int (nI ma), .int (bI wg)])), (ot, .inl (c3, 256, .inl (mPut2 v_33a.1 v_33a.2 (mUnit al dg 3)).1))] := hD
          generalize e_33aa : mPut2 v_33a.1 v_33a.2 (mUnit al dg 3) = v_33aa at hP hD ⊢
          have hP : va_P (dC, dI) kcl [(pt, .inl (c2, 256, .inl PD)), (q, .inr (5, [.int th, .ref tx, .int (nI mz), .int fl, .int (bI it), .long al, .ref pt, .int (nI dg), .ref ot, .int (nI v_33aa.2), .int (nI kz), .ref ka, .ref kd, .ref kp, .int (nI ma), .int (bI wg)])), (ot, .inl (c3, 256, .inl v_33aa.1))] H := hP
          have hD : va_D A [(pt, .inl (c2, 256, .inl PD)), (q, .inr (5, [.int th, .ref tx, .int (nI mz), .int fl, .int (bI it), .long al, .ref pt, .int (nI dg), .ref ot, .int (nI v_33aa.2), .int (nI kz), .ref ka, .ref kd, .ref kp, .int (nI ma), .int (bI wg)])), (ot, .inl (c3, 256, .inl v_33aa.1))] := hD
          have hp33aa : v_33aa.2 = v_33a.2 + 1 + 1 := by rw [← e_33aa]; rfl
          refine lv_iinc (v := 4) (lv' := [(2, .int 4), (0, .ref q), (1, .int kind)]) hx hb dX5_write_36 hl (k := 0) rfl (by decide) (by decide) rfl (fun ls hl => ?_)
          refine lv_goto (tgt := 20) hx hb dX5_write_39 (by decide) ?_
          refine lv_iload_n hx hb dX5_write_20 rfl (lv_at hl 0 rfl) ?_
          refine lv_bipush (v := 6) hx hb dX5_write_21 (by decide) ?_
          refine lv_icmp_ge (tgt := 42) hx hb dX5_write_23 (by decide) (fun c_23 => ?_) (fun c_23 => ?_)
          · exact absurd c_23 (by decide)
          · refine lv_aload_n hx hb dX5_write_26 rfl (lv_at hl 1 rfl) ?_
            refine lv_aload_n hx hb dX5_write_27 rfl (lv_at hl 1 rfl) ?_
            refine lv_iload_n hx hb dX5_write_28 rfl (lv_at hl 0 rfl) ?_
            have hPc := hP.sub (ws' := [(q, .inr (5, [.int th, .ref tx, .int (nI mz), .int fl, .int (bI it), .long al, .ref pt, .int (nI dg), .ref ot, .int (nI v_33aa.2), .int (nI kz), .ref ka, .ref kd, .ref kp, .int (nI ma), .int (bI wg)]))]) [1] rfl
            have hDc := hD.sub (ws' := [(q, .inr (5, [.int th, .ref tx, .int (nI mz), .int fl, .int (bI it), .long al, .ref pt, .int (nI dg), .ref ot, .int (nI v_33aa.2), .int (nI kz), .ref ka, .ref kd, .ref kp, .int (nI ma), .int (bI wg)]))]) [1] (by decide) rfl
            have hKc := hK.sub (tys' := []) [] rfl
            have hFc := va_free (wc := [(q, .inr (5, [.int th, .ref tx, .int (nI mz), .int fl, .int (bI it), .long al, .ref pt, .int (nI dg), .ref ot, .int (nI v_33aa.2), .int (nI kz), .ref ka, .ref kd, .ref kp, .int (nI ma), .int (bI wg)]))]) hD hS hA [1] rfl
            refine kc_callSi (val := mUnit al dg 4) (va_runV (As := [.int 4]) (rest := [.ref q]) ⟨hx, hb, hml, hown, hts⟩ (m_unitOf l dC dI st H.size q th tx mz fl it al pt dg ot v_33aa.2 kz ka kd kp ma wg 4 hY hM hM2) (cwV 1 hts (kwV kwm_277 kwm_278 kwm_279 kwm_203 kwm_276) rfl rfl rfl (by decide +kernel) ⟨Nat.le_of_ble_eq_true rfl, Nat.le_of_ble_eq_true rfl⟩) ⟨kc_blind, va_recv hKc hPc (ci := 5) (q0 := 0) rfl rfl, kc_pre hG hS hFc hKc hPc hDc⟩ rfl rfl hl.1 rfl (lv_room (Nat.le_of_ble_eq_true rfl)) dX5_write_29 ⟨Nat.le_of_ble_eq_true rfl, Nat.le_of_ble_eq_true rfl⟩) ?_
            refine lv_iconst (v := 2) hx hb dX5_write_32 (by decide) ?_
            have hPc := hP.sub (ws' := [(q, .inr (5, [.int th, .ref tx, .int (nI mz), .int fl, .int (bI it), .long al, .ref pt, .int (nI dg), .ref ot, .int (nI v_33aa.2), .int (nI kz), .ref ka, .ref kd, .ref kp, .int (nI ma), .int (bI wg)])), (ot, .inl (c3, 256, .inl v_33aa.1))]) [1, 2] rfl
            have hDc := hD.sub (ws' := [(q, .inr (5, [.int th, .ref tx, .int (nI mz), .int fl, .int (bI it), .long al, .ref pt, .int (nI dg), .ref ot, .int (nI v_33aa.2), .int (nI kz), .ref ka, .ref kd, .ref kp, .int (nI ma), .int (bI wg)])), (ot, .inl (c3, 256, .inl v_33aa.1))]) [1, 2] (by decide) rfl
            have hKc := hK.sub (tys' := [(c3, .int)]) [1] rfl
            have hFc := va_free (wc := [(q, .inr (5, [.int th, .ref tx, .int (nI mz), .int fl, .int (bI it), .long al, .ref pt, .int (nI dg), .ref ot, .int (nI v_33aa.2), .int (nI kz), .ref ka, .ref kd, .ref kp, .int (nI ma), .int (bI wg)])), (ot, .inl (c3, 256, .inl v_33aa.1))]) hD hS hA [1, 2] rfl
            refine kc_callv (wr := [(pt, .inl (c2, 256, .inl PD))]) (w1 := [(q, .inr (5, [.int th, .ref tx, .int (nI mz), .int fl, .int (bI it), .long al, .ref pt, .int (nI dg), .ref ot, .int (nI (mPut2 v_33aa.1 v_33aa.2 (mUnit al dg 4)).2), .int (nI kz), .ref ka, .ref kd, .ref kp, .int (nI ma), .int (bI wg)])), (ot, .inl (c3, 256, .inl (mPut2 v_33aa.1 v_33aa.2 (mUnit al dg 4)).1))]) (va_runV (As := [.int (mUnit al dg 4), .int 2]) (rest := []) ⟨hx, hb, hml, hown, hts⟩ (m_put2 l dC dI st H.size q th tx mz fl it al pt dg ot v_33aa.2 kz ka kd kp ma wg c3 v_33aa.1 (mUnit al dg 4) (by omega)) (cwV 2 hts (kwV kwm_273 kwm_274 kwm_275 kwm_203 kwm_272) rfl rfl rfl (by decide +kernel) ⟨Nat.le_of_ble_eq_true rfl, Nat.le_of_ble_eq_true rfl⟩) ⟨kc_blind, va_recv hKc hPc (ci := 5) (q0 := 0) rfl rfl, kc_pre hG hS hFc hKc hPc hDc⟩ rfl rfl hl.1 rfl (lv_room (Nat.le_of_ble_eq_true rfl)) dX5_write_33 ⟨Nat.le_of_ble_eq_true rfl, Nat.le_of_ble_eq_true rfl⟩) hP hD hS hFc [1, 2] [0] rfl rfl (by decide) (by decide) (fun H locs hP hD hS => ?_)
            have hP : va_P (dC, dI) kcl [(pt, .inl (c2, 256, .inl PD)), (q, .inr (5, [.int th, .ref tx, .int (nI mz), .int fl, .int (bI it), .long al, .ref pt, .int (nI dg), .ref ot, .int (nI (mPut2 v_33aa.1 v_33aa.2 (mUnit al dg 4)).2), .int (nI kz), .ref ka, .ref kd, .ref kp, .int (nI ma), .int (bI wg)])), (ot, .inl (c3, 256, .inl (mPut2 v_33aa.1 v_33aa.2 (mUnit al dg 4)).1))] H := hP
            have hD : va_D A [(pt, .inl (c2, 256, .inl PD)), (q, .inr (5, [.int th, .ref tx, .int (nI mz), .int fl, .int (bI it), .long al, .ref pt, .int (nI dg), .ref ot, .int (nI (mPut2 v_33aa.1 v_33aa.2 (mUnit al dg 4)).2), .int (nI kz), .ref ka, .ref kd, .ref kp, .int (nI ma), .int (bI wg)])), (ot, .inl (c3, 256, .inl (mPut2 v_33aa.1 v_33aa.2 (mUnit al dg 4)).1))] := hD
            generalize e_33aaa : mPut2 v_33aa.1 v_33aa.2 (mUnit al dg 4) = v_33aaa at hP hD ⊢
            have hP : va_P (dC, dI) kcl [(pt, .inl (c2, 256, .inl PD)), (q, .inr (5, [.int th, .ref tx, .int (nI mz), .int fl, .int (bI it), .long al, .ref pt, .int (nI dg), .ref ot, .int (nI v_33aaa.2), .int (nI kz), .ref ka, .ref kd, .ref kp, .int (nI ma), .int (bI wg)])), (ot, .inl (c3, 256, .inl v_33aaa.1))] H := hP
            have hD : va_D A [(pt, .inl (c2, 256, .inl PD)), (q, .inr (5, [.int th, .ref tx, .int (nI mz), .int fl, .int (bI it), .long al, .ref pt, .int (nI dg), .ref ot, .int (nI v_33aaa.2), .int (nI kz), .ref ka, .ref kd, .ref kp, .int (nI ma), .int (bI wg)])), (ot, .inl (c3, 256, .inl v_33aaa.1))] := hD
            have hp33aaa : v_33aaa.2 = v_33aa.2 + 1 + 1 := by rw [← e_33aaa]; rfl
            refine lv_iinc (v := 5) (lv' := [(2, .int 5), (0, .ref q), (1, .int kind)]) hx hb dX5_write_36 hl (k := 0) rfl (by decide) (by decide) rfl (fun ls hl => ?_)
            refine lv_goto (tgt := 20) hx hb dX5_write_39 (by decide) ?_
            refine lv_iload_n hx hb dX5_write_20 rfl (lv_at hl 0 rfl) ?_
            refine lv_bipush (v := 6) hx hb dX5_write_21 (by decide) ?_
            refine lv_icmp_ge (tgt := 42) hx hb dX5_write_23 (by decide) (fun c_23 => ?_) (fun c_23 => ?_)
            · exact absurd c_23 (by decide)
            · refine lv_aload_n hx hb dX5_write_26 rfl (lv_at hl 1 rfl) ?_
              refine lv_aload_n hx hb dX5_write_27 rfl (lv_at hl 1 rfl) ?_
              refine lv_iload_n hx hb dX5_write_28 rfl (lv_at hl 0 rfl) ?_
              have hPc := hP.sub (ws' := [(q, .inr (5, [.int th, .ref tx, .int (nI mz), .int fl, .int (bI it), .long al, .ref pt, .int (nI dg), .ref ot, .int (nI v_33aaa.2), .int (nI kz), .ref ka, .ref kd, .ref kp, .int (nI ma), .int (bI wg)]))]) [1] rfl
              have hDc := hD.sub (ws' := [(q, .inr (5, [.int th, .ref tx, .int (nI mz), .int fl, .int (bI it), .long al, .ref pt, .int (nI dg), .ref ot, .int (nI v_33aaa.2), .int (nI kz), .ref ka, .ref kd, .ref kp, .int (nI ma), .int (bI wg)]))]) [1] (by decide) rfl
              have hKc := hK.sub (tys' := []) [] rfl
              have hFc := va_free (wc := [(q, .inr (5, [.int th, .ref tx, .int (nI mz), .int fl, .int (bI it), .long al, .ref pt, .int (nI dg), .ref ot, .int (nI v_33aaa.2), .int (nI kz), .ref ka, .ref kd, .ref kp, .int (nI ma), .int (bI wg)]))]) hD hS hA [1] rfl
              refine kc_callSi (val := mUnit al dg 5) (va_runV (As := [.int 5]) (rest := [.ref q]) ⟨hx, hb, hml, hown, hts⟩ (m_unitOf l dC dI st H.size q th tx mz fl it al pt dg ot v_33aaa.2 kz ka kd kp ma wg 5 hY hM hM2) (cwV 1 hts (kwV kwm_277 kwm_278 kwm_279 kwm_203 kwm_276) rfl rfl rfl (by decide +kernel) ⟨Nat.le_of_ble_eq_true rfl, Nat.le_of_ble_eq_true rfl⟩) ⟨kc_blind, va_recv hKc hPc (ci := 5) (q0 := 0) rfl rfl, kc_pre hG hS hFc hKc hPc hDc⟩ rfl rfl hl.1 rfl (lv_room (Nat.le_of_ble_eq_true rfl)) dX5_write_29 ⟨Nat.le_of_ble_eq_true rfl, Nat.le_of_ble_eq_true rfl⟩) ?_
              refine lv_iconst (v := 2) hx hb dX5_write_32 (by decide) ?_
              have hPc := hP.sub (ws' := [(q, .inr (5, [.int th, .ref tx, .int (nI mz), .int fl, .int (bI it), .long al, .ref pt, .int (nI dg), .ref ot, .int (nI v_33aaa.2), .int (nI kz), .ref ka, .ref kd, .ref kp, .int (nI ma), .int (bI wg)])), (ot, .inl (c3, 256, .inl v_33aaa.1))]) [1, 2] rfl
              have hDc := hD.sub (ws' := [(q, .inr (5, [.int th, .ref tx, .int (nI mz), .int fl, .int (bI it), .long al, .ref pt, .int (nI dg), .ref ot, .int (nI v_33aaa.2), .int (nI kz), .ref ka, .ref kd, .ref kp, .int (nI ma), .int (bI wg)])), (ot, .inl (c3, 256, .inl v_33aaa.1))]) [1, 2] (by decide) rfl
              have hKc := hK.sub (tys' := [(c3, .int)]) [1] rfl
              have hFc := va_free (wc := [(q, .inr (5, [.int th, .ref tx, .int (nI mz), .int fl, .int (bI it), .long al, .ref pt, .int (nI dg), .ref ot, .int (nI v_33aaa.2), .int (nI kz), .ref ka, .ref kd, .ref kp, .int (nI ma), .int (bI wg)])), (ot, .inl (c3, 256, .inl v_33aaa.1))]) hD hS hA [1, 2] rfl
              refine kc_callv (wr := [(pt, .inl (c2, 256, .inl PD))]) (w1 := [(q, .inr (5, [.int th, .ref tx, .int (nI mz), .int fl, .int (bI it), .long al, .ref pt, .int (nI dg), .ref ot, .int (nI (mPut2 v_33aaa.1 v_33aaa.2 (mUnit al dg 5)).2), .int (nI kz), .ref ka, .ref kd, .ref kp, .int (nI ma), .int (bI wg)])), (ot, .inl (c3, 256, .inl (mPut2 v_33aaa.1 v_33aaa.2 (mUnit al dg 5)).1))]) (va_runV (As := [.int (mUnit al dg 5), .int 2]) (rest := []) ⟨hx, hb, hml, hown, hts⟩ (m_put2 l dC dI st H.size q th tx mz fl it al pt dg ot v_33aaa.2 kz ka kd kp ma wg c3 v_33aaa.1 (mUnit al dg 5) (by omega)) (cwV 2 hts (kwV kwm_273 kwm_274 kwm_275 kwm_203 kwm_272) rfl rfl rfl (by decide +kernel) ⟨Nat.le_of_ble_eq_true rfl, Nat.le_of_ble_eq_true rfl⟩) ⟨kc_blind, va_recv hKc hPc (ci := 5) (q0 := 0) rfl rfl, kc_pre hG hS hFc hKc hPc hDc⟩ rfl rfl hl.1 rfl (lv_room (Nat.le_of_ble_eq_true rfl)) dX5_write_33 ⟨Nat.le_of_ble_eq_true rfl, Nat.le_of_ble_eq_true rfl⟩) hP hD hS hFc [1, 2] [0] rfl rfl (by decide) (by decide) (fun H locs hP hD hS => ?_)
              have hP : va_P (dC, dI) kcl [(pt, .inl (c2, 256, .inl PD)), (q, .inr (5, [.int th, .ref tx, .int (nI mz), .int fl, .int (bI it), .long al, .ref pt, .int (nI dg), .ref ot, .int (nI (mPut2 v_33aaa.1 v_33aaa.2 (mUnit al dg 5)).2), .int (nI kz), .ref ka, .ref kd, .ref kp, .int (nI ma), .int (bI wg)])), (ot, .inl (c3, 256, .inl (mPut2 v_33aaa.1 v_33aaa.2 (mUnit al dg 5)).1))] H := hP
              have hD : va_D A [(pt, .inl (c2, 256, .inl PD)), (q, .inr (5, [.int th, .ref tx, .int (nI mz), .int fl, .int (bI it), .long al, .ref pt, .int (nI dg), .ref ot, .int (nI (mPut2 v_33aaa.1 v_33aaa.2 (mUnit al dg 5)).2), .int (nI kz), .ref ka, .ref kd, .ref kp, .int (nI ma), .int (bI wg)])), (ot, .inl (c3, 256, .inl (mPut2 v_33aaa.1 v_33aaa.2 (mUnit al dg 5)).1))] := hD
              generalize e_33aaaa : mPut2 v_33aaa.1 v_33aaa.2 (mUnit al dg 5) = v_33aaaa at hP hD ⊢
              have hP : va_P (dC, dI) kcl [(pt, .inl (c2, 256, .inl PD)), (q, .inr (5, [.int th, .ref tx, .int (nI mz), .int fl, .int (bI it), .long al, .ref pt, .int (nI dg), .ref ot, .int (nI v_33aaaa.2), .int (nI kz), .ref ka, .ref kd, .ref kp, .int (nI ma), .int (bI wg)])), (ot, .inl (c3, 256, .inl v_33aaaa.1))] H := hP
              have hD : va_D A [(pt, .inl (c2, 256, .inl PD)), (q, .inr (5, [.int th, .ref tx, .int (nI mz), .int fl, .int (bI it), .long al, .ref pt, .int (nI dg), .ref ot, .int (nI v_33aaaa.2), .int (nI kz), .ref ka, .ref kd, .ref kp, .int (nI ma), .int (bI wg)])), (ot, .inl (c3, 256, .inl v_33aaaa.1))] := hD
              have hp33aaaa : v_33aaaa.2 = v_33aaa.2 + 1 + 1 := by rw [← e_33aaaa]; rfl
              refine lv_iinc (v := 6) (lv' := [(2, .int 6), (0, .ref q), (1, .int kind)]) hx hb dX5_write_36 hl (k := 0) rfl (by decide) (by decide) rfl (fun ls hl => ?_)
              refine lv_goto (tgt := 20) hx hb dX5_write_39 (by decide) ?_
              refine lv_iload_n hx hb dX5_write_20 rfl (lv_at hl 0 rfl) ?_
              refine lv_bipush (v := 6) hx hb dX5_write_21 (by decide) ?_
              refine lv_icmp_ge (tgt := 42) hx hb dX5_write_23 (by decide) (fun c_23 => ?_) (fun c_23 => ?_)
              · refine lv_aload_n hx hb dX5_write_42 rfl (lv_at hl 1 rfl) ?_
                refine va_get (D := (dC, dI)) (ci := 5) (v := .int (nI dg)) (C := RX5) (T := TX5) (N := 16) hx hb hts kin_5 hown hK hP 1 rfl rfl 7 (by decide) (hts _ (kcm kwm_236)) (fun _ h9 => h9) rfl dX5_write_43 ?_
                refine lv_if_le (tgt := 70) hx hb dX5_write_46 (by decide) (fun c_46 => ?_) (fun c_46 => ?_)
                · refine lv_iconst (v := 0) hx hb dX5_write_70 (by decide) ?_
                  refine lv_istore_n (lv' := [(2, .int 0), (0, .ref q), (1, .int kind)]) hx hb dX5_write_71 rfl hl (by decide) rfl (fun ls hl => ?_)
                  have hF9 : mWrite al dg PD kind U wr = (upd (wpL PD dg dg 0 v_33aaaa.1 v_33aaaa.2).1 (wpL PD dg dg 0 v_33aaaa.1 v_33aaaa.2).2 90, (wpL PD dg dg 0 v_33aaaa.1 v_33aaaa.2).2 + 1) := by
                    subst e_33aaaa
                    subst e_33aaa
                    subst e_33aa
                    subst e_33a
                    subst e_33
                    subst e_15
                    first | (simp only [mWrite, if_neg c_7, if_pos c_46]; done) | rfl
                  rw [hF9]
                  exact lp_wri dC dI st q th tx mz fl it al pt dg ot kz ka kd kp ma wg c2 PD c3 kind (wpL PD dg dg 0 v_33aaaa.1 v_33aaaa.2) hdg Cx hA hG hK dg 0 v_33aaaa.1 v_33aaaa.2 (by omega) (by omega) (by omega) rfl H locs ls (hP.sub [1, 0, 2] rfl) (hD.sub [1, 0, 2] (by decide) rfl) hS (lv_sub hl [1, 2, 0] rfl)
                · refine lv_aload_n hx hb dX5_write_49 rfl (lv_at hl 1 rfl) ?_
                  refine va_get (D := (dC, dI)) (ci := 5) (v := .ref ot) (C := RX5) (T := TX5) (N := 16) hx hb hts kin_5 hown hK hP 1 rfl rfl 8 (by decide) (hts _ (kcm kwm_270)) (fun _ h9 => h9) rfl dX5_write_50 ?_
                  refine lv_aload_n hx hb dX5_write_53 rfl (lv_at hl 1 rfl) ?_
                  refine va_get (D := (dC, dI)) (ci := 5) (v := .int (nI v_33aaaa.2)) (C := RX5) (T := TX5) (N := 16) hx hb hts kin_5 hown hK hP 1 rfl rfl 9 (by decide) (hts _ (kcm kwm_271)) (fun _ h9 => h9) rfl dX5_write_54 ?_
                  refine lv_bipush (v := 46) hx hb dX5_write_57 (by decide) ?_
                  refine va_iast hx hb hK hP hD hS 2 1 rfl rfl (vp_in_nI (by omega) (by decide)) dX5_write_59 (fun H locs hP hD hS => ?_)
                  rw [show (nI v_33aaaa.2).toNatClampNeg = v_33aaaa.2 from nI_clamp (by omega)] at hP hD
                  have hP : va_P (dC, dI) kcl [(pt, .inl (c2, 256, .inl PD)), (q, .inr (5, [.int th, .ref tx, .int (nI mz), .int fl, .int (bI it), .long al, .ref pt, .int (nI dg), .ref ot, .int (nI v_33aaaa.2), .int (nI kz), .ref ka, .ref kd, .ref kp, .int (nI ma), .int (bI wg)])), (ot, .inl (c3, 256, .inl (upd v_33aaaa.1 v_33aaaa.2 46)))] H := hP
                  have hD : va_D A [(pt, .inl (c2, 256, .inl PD)), (q, .inr (5, [.int th, .ref tx, .int (nI mz), .int fl, .int (bI it), .long al, .ref pt, .int (nI dg), .ref ot, .int (nI v_33aaaa.2), .int (nI kz), .ref ka, .ref kd, .ref kp, .int (nI ma), .int (bI wg)])), (ot, .inl (c3, 256, .inl (upd v_33aaaa.1 v_33aaaa.2 46)))] := hD
                  refine lv_aload_n hx hb dX5_write_60 rfl (lv_at hl 1 rfl) ?_
                  refine lv_dup hx hb dX5_write_61 rfl ?_
                  refine va_get (D := (dC, dI)) (ci := 5) (v := .int (nI v_33aaaa.2)) (C := RX5) (T := TX5) (N := 16) hx hb hts kin_5 hown hK hP 1 rfl rfl 9 (by decide) (hts _ (kcm kwm_271)) (fun _ h9 => h9) rfl dX5_write_62 ?_
                  refine lv_iconst (v := 1) hx hb dX5_write_65 (by decide) ?_
                  refine lv_iadd hx hb dX5_write_66 ?_
                  rw [show (nI v_33aaaa.2) + 1 = nI (v_33aaaa.2 + 1) from nI_add v_33aaaa.2 1]
                  refine va_put (D := (dC, dI)) (ci := 5) (v := .int (nI (v_33aaaa.2 + 1))) (ty := .int) (C := RX5) (T := TX5) (N := 16) hx hb hts kin_5 tyX5 tyX5_ok nmX5 hown hK hP hD hS 1 rfl rfl 9 (by decide) (hts _ (kcm kwm_271)) (fun _ h9 => h9) rfl (by decide +kernel) rfl rfl (Nat.le_of_ble_eq_true rfl) dX5_write_67 (fun H locs hP hD hS => ?_)
                  have hP : va_P (dC, dI) kcl [(pt, .inl (c2, 256, .inl PD)), (q, .inr (5, [.int th, .ref tx, .int (nI mz), .int fl, .int (bI it), .long al, .ref pt, .int (nI dg), .ref ot, .int (nI (v_33aaaa.2 + 1)), .int (nI kz), .ref ka, .ref kd, .ref kp, .int (nI ma), .int (bI wg)])), (ot, .inl (c3, 256, .inl (upd v_33aaaa.1 v_33aaaa.2 46)))] H := hP
                  have hD : va_D A [(pt, .inl (c2, 256, .inl PD)), (q, .inr (5, [.int th, .ref tx, .int (nI mz), .int fl, .int (bI it), .long al, .ref pt, .int (nI dg), .ref ot, .int (nI (v_33aaaa.2 + 1)), .int (nI kz), .ref ka, .ref kd, .ref kp, .int (nI ma), .int (bI wg)])), (ot, .inl (c3, 256, .inl (upd v_33aaaa.1 v_33aaaa.2 46)))] := hD
                  refine lv_iconst (v := 0) hx hb dX5_write_70 (by decide) ?_
                  refine lv_istore_n (lv' := [(2, .int 0), (0, .ref q), (1, .int kind)]) hx hb dX5_write_71 rfl hl (by decide) rfl (fun ls hl => ?_)
                  have hF9 : mWrite al dg PD kind U wr = (upd (wpL PD dg dg 0 (upd v_33aaaa.1 v_33aaaa.2 46) (v_33aaaa.2 + 1)).1 (wpL PD dg dg 0 (upd v_33aaaa.1 v_33aaaa.2 46) (v_33aaaa.2 + 1)).2 90, (wpL PD dg dg 0 (upd v_33aaaa.1 v_33aaaa.2 46) (v_33aaaa.2 + 1)).2 + 1) := by
                    subst e_33aaaa
                    subst e_33aaa
                    subst e_33aa
                    subst e_33a
                    subst e_33
                    subst e_15
                    first | (simp only [mWrite, if_neg c_7, if_neg c_46]; done) | rfl
                  rw [hF9]
                  exact lp_wri dC dI st q th tx mz fl it al pt dg ot kz ka kd kp ma wg c2 PD c3 kind (wpL PD dg dg 0 (upd v_33aaaa.1 v_33aaaa.2 46) (v_33aaaa.2 + 1)) hdg Cx hA hG hK dg 0 (upd v_33aaaa.1 v_33aaaa.2 46) (v_33aaaa.2 + 1) (by omega) (by omega) (by omega) rfl H locs ls (hP.sub [1, 0, 2] rfl) (hD.sub [1, 0, 2] (by decide) rfl) hS (lv_sub hl [1, 2, 0] rfl)
              · exact absurd (by decide) c_23
  · refine lv_iconst (v := 2) hx hb dX5_write_10 (by decide) ?_
    refine lv_goto (tgt := 15) hx hb dX5_write_11 (by decide) ?_
    have hPc := hP.sub (ws' := [(q, .inr (5, [.int th, .ref tx, .int (nI mz), .int fl, .int (bI it), .long al, .ref pt, .int (nI dg), .ref ot, .int (nI wr), .int (nI kz), .ref ka, .ref kd, .ref kp, .int (nI ma), .int (bI wg)])), (ot, .inl (c3, 256, .inl U))]) [0, 2] rfl
    have hDc := hD.sub (ws' := [(q, .inr (5, [.int th, .ref tx, .int (nI mz), .int fl, .int (bI it), .long al, .ref pt, .int (nI dg), .ref ot, .int (nI wr), .int (nI kz), .ref ka, .ref kd, .ref kp, .int (nI ma), .int (bI wg)])), (ot, .inl (c3, 256, .inl U))]) [0, 2] (by decide) rfl
    have hKc := hK.sub (tys' := [(c3, .int)]) [1] rfl
    have hFc := va_free (wc := [(q, .inr (5, [.int th, .ref tx, .int (nI mz), .int fl, .int (bI it), .long al, .ref pt, .int (nI dg), .ref ot, .int (nI wr), .int (nI kz), .ref ka, .ref kd, .ref kp, .int (nI ma), .int (bI wg)])), (ot, .inl (c3, 256, .inl U))]) hD hS hA [0, 2] rfl
    refine kc_callv (wr := [(pt, .inl (c2, 256, .inl PD))]) (w1 := [(q, .inr (5, [.int th, .ref tx, .int (nI mz), .int fl, .int (bI it), .long al, .ref pt, .int (nI dg), .ref ot, .int (nI (mPut2 U wr (mUnit al dg 0)).2), .int (nI kz), .ref ka, .ref kd, .ref kp, .int (nI ma), .int (bI wg)])), (ot, .inl (c3, 256, .inl (mPut2 U wr (mUnit al dg 0)).1))]) (va_runV (As := [.int (mUnit al dg 0), .int 2]) (rest := []) ⟨hx, hb, hml, hown, hts⟩ (m_put2 l dC dI st s.heap.size q th tx mz fl it al pt dg ot wr kz ka kd kp ma wg c3 U (mUnit al dg 0) (by omega)) (cwV 2 hts (kwV kwm_273 kwm_274 kwm_275 kwm_203 kwm_272) rfl rfl rfl (by decide +kernel) ⟨Nat.le_of_ble_eq_true rfl, Nat.le_of_ble_eq_true rfl⟩) ⟨kc_blind, va_recv hKc hPc (ci := 5) (q0 := 0) rfl rfl, kc_pre hG hS hFc hKc hPc hDc⟩ rfl rfl hl.1 rfl (lv_room (Nat.le_of_ble_eq_true rfl)) dX5_write_15 ⟨Nat.le_of_ble_eq_true rfl, Nat.le_of_ble_eq_true rfl⟩) hP hD hS hFc [0, 2] [1] rfl rfl (by decide) (by decide) (fun H locs hP hD hS => ?_)
    have hP : va_P (dC, dI) kcl [(pt, .inl (c2, 256, .inl PD)), (q, .inr (5, [.int th, .ref tx, .int (nI mz), .int fl, .int (bI it), .long al, .ref pt, .int (nI dg), .ref ot, .int (nI (mPut2 U wr (mUnit al dg 0)).2), .int (nI kz), .ref ka, .ref kd, .ref kp, .int (nI ma), .int (bI wg)])), (ot, .inl (c3, 256, .inl (mPut2 U wr (mUnit al dg 0)).1))] H := hP
    have hD : va_D A [(pt, .inl (c2, 256, .inl PD)), (q, .inr (5, [.int th, .ref tx, .int (nI mz), .int fl, .int (bI it), .long al, .ref pt, .int (nI dg), .ref ot, .int (nI (mPut2 U wr (mUnit al dg 0)).2), .int (nI kz), .ref ka, .ref kd, .ref kp, .int (nI ma), .int (bI wg)])), (ot, .inl (c3, 256, .inl (mPut2 U wr (mUnit al dg 0)).1))] := hD
    generalize e_15 : mPut2 U wr (mUnit al dg 0) = v_15 at hP hD ⊢
    have hP : va_P (dC, dI) kcl [(pt, .inl (c2, 256, .inl PD)), (q, .inr (5, [.int th, .ref tx, .int (nI mz), .int fl, .int (bI it), .long al, .ref pt, .int (nI dg), .ref ot, .int (nI v_15.2), .int (nI kz), .ref ka, .ref kd, .ref kp, .int (nI ma), .int (bI wg)])), (ot, .inl (c3, 256, .inl v_15.1))] H := hP
    have hD : va_D A [(pt, .inl (c2, 256, .inl PD)), (q, .inr (5, [.int th, .ref tx, .int (nI mz), .int fl, .int (bI it), .long al, .ref pt, .int (nI dg), .ref ot, .int (nI v_15.2), .int (nI kz), .ref ka, .ref kd, .ref kp, .int (nI ma), .int (bI wg)])), (ot, .inl (c3, 256, .inl v_15.1))] := hD
    have hp15 : v_15.2 = wr + 1 + 1 := by rw [← e_15]; rfl
    refine lv_iconst (v := 1) hx hb dX5_write_18 (by decide) ?_
    refine lv_istore_n (lv' := [(2, .int 1), (0, .ref q), (1, .int kind)]) hx hb dX5_write_19 rfl hl (by decide) rfl (fun ls hl => ?_)
    refine lv_iload_n hx hb dX5_write_20 rfl (lv_at hl 0 rfl) ?_
    refine lv_bipush (v := 6) hx hb dX5_write_21 (by decide) ?_
    refine lv_icmp_ge (tgt := 42) hx hb dX5_write_23 (by decide) (fun c_23 => ?_) (fun c_23 => ?_)
    · exact absurd c_23 (by decide)
    · refine lv_aload_n hx hb dX5_write_26 rfl (lv_at hl 1 rfl) ?_
      refine lv_aload_n hx hb dX5_write_27 rfl (lv_at hl 1 rfl) ?_
      refine lv_iload_n hx hb dX5_write_28 rfl (lv_at hl 0 rfl) ?_
      have hPc := hP.sub (ws' := [(q, .inr (5, [.int th, .ref tx, .int (nI mz), .int fl, .int (bI it), .long al, .ref pt, .int (nI dg), .ref ot, .int (nI v_15.2), .int (nI kz), .ref ka, .ref kd, .ref kp, .int (nI ma), .int (bI wg)]))]) [1] rfl
      have hDc := hD.sub (ws' := [(q, .inr (5, [.int th, .ref tx, .int (nI mz), .int fl, .int (bI it), .long al, .ref pt, .int (nI dg), .ref ot, .int (nI v_15.2), .int (nI kz), .ref ka, .ref kd, .ref kp, .int (nI ma), .int (bI wg)]))]) [1] (by decide) rfl
      have hKc := hK.sub (tys' := []) [] rfl
      have hFc := va_free (wc := [(q, .inr (5, [.int th, .ref tx, .int (nI mz), .int fl, .int (bI it), .long al, .ref pt, .int (nI dg), .ref ot, .int (nI v_15.2), .int (nI kz), .ref ka, .ref kd, .ref kp, .int (nI ma), .int (bI wg)]))]) hD hS hA [1] rfl
      refine kc_callSi (val := mUnit al dg 1) (va_runV (As := [.int 1]) (rest := [.ref q]) ⟨hx, hb, hml, hown, hts⟩ (m_unitOf l dC dI st H.size q th tx mz fl it al pt dg ot v_15.2 kz ka kd kp ma wg 1 hY hM hM2) (cwV 1 hts (kwV kwm_277 kwm_278 kwm_279 kwm_203 kwm_276) rfl rfl rfl (by decide +kernel) ⟨Nat.le_of_ble_eq_true rfl, Nat.le_of_ble_eq_true rfl⟩) ⟨kc_blind, va_recv hKc hPc (ci := 5) (q0 := 0) rfl rfl, kc_pre hG hS hFc hKc hPc hDc⟩ rfl rfl hl.1 rfl (lv_room (Nat.le_of_ble_eq_true rfl)) dX5_write_29 ⟨Nat.le_of_ble_eq_true rfl, Nat.le_of_ble_eq_true rfl⟩) ?_
      refine lv_iconst (v := 2) hx hb dX5_write_32 (by decide) ?_
      have hPc := hP.sub (ws' := [(q, .inr (5, [.int th, .ref tx, .int (nI mz), .int fl, .int (bI it), .long al, .ref pt, .int (nI dg), .ref ot, .int (nI v_15.2), .int (nI kz), .ref ka, .ref kd, .ref kp, .int (nI ma), .int (bI wg)])), (ot, .inl (c3, 256, .inl v_15.1))]) [1, 2] rfl
      have hDc := hD.sub (ws' := [(q, .inr (5, [.int th, .ref tx, .int (nI mz), .int fl, .int (bI it), .long al, .ref pt, .int (nI dg), .ref ot, .int (nI v_15.2), .int (nI kz), .ref ka, .ref kd, .ref kp, .int (nI ma), .int (bI wg)])), (ot, .inl (c3, 256, .inl v_15.1))]) [1, 2] (by decide) rfl
      have hKc := hK.sub (tys' := [(c3, .int)]) [1] rfl
      have hFc := va_free (wc := [(q, .inr (5, [.int th, .ref tx, .int (nI mz), .int fl, .int (bI it), .long al, .ref pt, .int (nI dg), .ref ot, .int (nI v_15.2), .int (nI kz), .ref ka, .ref kd, .ref kp, .int (nI ma), .int (bI wg)])), (ot, .inl (c3, 256, .inl v_15.1))]) hD hS hA [1, 2] rfl
      refine kc_callv (wr := [(pt, .inl (c2, 256, .inl PD))]) (w1 := [(q, .inr (5, [.int th, .ref tx, .int (nI mz), .int fl, .int (bI it), .long al, .ref pt, .int (nI dg), .ref ot, .int (nI (mPut2 v_15.1 v_15.2 (mUnit al dg 1)).2), .int (nI kz), .ref ka, .ref kd, .ref kp, .int (nI ma), .int (bI wg)])), (ot, .inl (c3, 256, .inl (mPut2 v_15.1 v_15.2 (mUnit al dg 1)).1))]) (va_runV (As := [.int (mUnit al dg 1), .int 2]) (rest := []) ⟨hx, hb, hml, hown, hts⟩ (m_put2 l dC dI st H.size q th tx mz fl it al pt dg ot v_15.2 kz ka kd kp ma wg c3 v_15.1 (mUnit al dg 1) (by omega)) (cwV 2 hts (kwV kwm_273 kwm_274 kwm_275 kwm_203 kwm_272) rfl rfl rfl (by decide +kernel) ⟨Nat.le_of_ble_eq_true rfl, Nat.le_of_ble_eq_true rfl⟩) ⟨kc_blind, va_recv hKc hPc (ci := 5) (q0 := 0) rfl rfl, kc_pre hG hS hFc hKc hPc hDc⟩ rfl rfl hl.1 rfl (lv_room (Nat.le_of_ble_eq_true rfl)) dX5_write_33 ⟨Nat.le_of_ble_eq_true rfl, Nat.le_of_ble_eq_true rfl⟩) hP hD hS hFc [1, 2] [0] rfl rfl (by decide) (by decide) (fun H locs hP hD hS => ?_)
      have hP : va_P (dC, dI) kcl [(pt, .inl (c2, 256, .inl PD)), (q, .inr (5, [.int th, .ref tx, .int (nI mz), .int fl, .int (bI it), .long al, .ref pt, .int (nI dg), .ref ot, .int (nI (mPut2 v_15.1 v_15.2 (mUnit al dg 1)).2), .int (nI kz), .ref ka, .ref kd, .ref kp, .int (nI ma), .int (bI wg)])), (ot, .inl (c3, 256, .inl (mPut2 v_15.1 v_15.2 (mUnit al dg 1)).1))] H := hP
      have hD : va_D A [(pt, .inl (c2, 256, .inl PD)), (q, .inr (5, [.int th, .ref tx, .int (nI mz), .int fl, .int (bI it), .long al, .ref pt, .int (nI dg), .ref ot, .int (nI (mPut2 v_15.1 v_15.2 (mUnit al dg 1)).2), .int (nI kz), .ref ka, .ref kd, .ref kp, .int (nI ma), .int (bI wg)])), (ot, .inl (c3, 256, .inl (mPut2 v_15.1 v_15.2 (mUnit al dg 1)).1))] := hD
      generalize e_33 : mPut2 v_15.1 v_15.2 (mUnit al dg 1) = v_33 at hP hD ⊢
      have hP : va_P (dC, dI) kcl [(pt, .inl (c2, 256, .inl PD)), (q, .inr (5, [.int th, .ref tx, .int (nI mz), .int fl, .int (bI it), .long al, .ref pt, .int (nI dg), .ref ot, .int (nI v_33.2), .int (nI kz), .ref ka, .ref kd, .ref kp, .int (nI ma), .int (bI wg)])), (ot, .inl (c3, 256, .inl v_33.1))] H := hP
      have hD : va_D A [(pt, .inl (c2, 256, .inl PD)), (q, .inr (5, [.int th, .ref tx, .int (nI mz), .int fl, .int (bI it), .long al, .ref pt, .int (nI dg), .ref ot, .int (nI v_33.2), .int (nI kz), .ref ka, .ref kd, .ref kp, .int (nI ma), .int (bI wg)])), (ot, .inl (c3, 256, .inl v_33.1))] := hD
      have hp33 : v_33.2 = v_15.2 + 1 + 1 := by rw [← e_33]; rfl
      refine lv_iinc (v := 2) (lv' := [(2, .int 2), (0, .ref q), (1, .int kind)]) hx hb dX5_write_36 hl (k := 0) rfl (by decide) (by decide) rfl (fun ls hl => ?_)
      refine lv_goto (tgt := 20) hx hb dX5_write_39 (by decide) ?_
      refine lv_iload_n hx hb dX5_write_20 rfl (lv_at hl 0 rfl) ?_
      refine lv_bipush (v := 6) hx hb dX5_write_21 (by decide) ?_
      refine lv_icmp_ge (tgt := 42) hx hb dX5_write_23 (by decide) (fun c_23 => ?_) (fun c_23 => ?_)
      · exact absurd c_23 (by decide)
      · refine lv_aload_n hx hb dX5_write_26 rfl (lv_at hl 1 rfl) ?_
        refine lv_aload_n hx hb dX5_write_27 rfl (lv_at hl 1 rfl) ?_
        refine lv_iload_n hx hb dX5_write_28 rfl (lv_at hl 0 rfl) ?_
        have hPc := hP.sub (ws' := [(q, .inr (5, [.int th, .ref tx, .int (nI mz), .int fl, .int (bI it), .long al, .ref pt, .int (nI dg), .ref ot, .int (nI v_33.2), .int (nI kz), .ref ka, .ref kd, .ref kp, .int (nI ma), .int (bI wg)]))]) [1] rfl
        have hDc := hD.sub (ws' := [(q, .inr (5, [.int th, .ref tx, .int (nI mz), .int fl, .int (bI it), .long al, .ref pt, .int (nI dg), .ref ot, .int (nI v_33.2), .int (nI kz), .ref ka, .ref kd, .ref kp, .int (nI ma), .int (bI wg)]))]) [1] (by decide) rfl
        have hKc := hK.sub (tys' := []) [] rfl
        have hFc := va_free (wc := [(q, .inr (5, [.int th, .ref tx, .int (nI mz), .int fl, .int (bI it), .long al, .ref pt, .int (nI dg), .ref ot, .int (nI v_33.2), .int (nI kz), .ref ka, .ref kd, .ref kp, .int (nI ma), .int (bI wg)]))]) hD hS hA [1] rfl
        refine kc_callSi (val := mUnit al dg 2) (va_runV (As := [.int 2]) (rest := [.ref q]) ⟨hx, hb, hml, hown, hts⟩ (m_unitOf l dC dI st H.size q th tx mz fl it al pt dg ot v_33.2 kz ka kd kp ma wg 2 hY hM hM2) (cwV 1 hts (kwV kwm_277 kwm_278 kwm_279 kwm_203 kwm_276) rfl rfl rfl (by decide +kernel) ⟨Nat.le_of_ble_eq_true rfl, Nat.le_of_ble_eq_true rfl⟩) ⟨kc_blind, va_recv hKc hPc (ci := 5) (q0 := 0) rfl rfl, kc_pre hG hS hFc hKc hPc hDc⟩ rfl rfl hl.1 rfl (lv_room (Nat.le_of_ble_eq_true rfl)) dX5_write_29 ⟨Nat.le_of_ble_eq_true rfl, Nat.le_of_ble_eq_true rfl⟩) ?_
        refine lv_iconst (v := 2) hx hb dX5_write_32 (by decide) ?_
        have hPc := hP.sub (ws' := [(q, .inr (5, [.int th, .ref tx, .int (nI mz), .int fl, .int (bI it), .long al, .ref pt, .int (nI dg), .ref ot, .int (nI v_33.2), .int (nI kz), .ref ka, .ref kd, .ref kp, .int (nI ma), .int (bI wg)])), (ot, .inl (c3, 256, .inl v_33.1))]) [1, 2] rfl
        have hDc := hD.sub (ws' := [(q, .inr (5, [.int th, .ref tx, .int (nI mz), .int fl, .int (bI it), .long al, .ref pt, .int (nI dg), .ref ot, .int (nI v_33.2), .int (nI kz), .ref ka, .ref kd, .ref kp, .int (nI ma), .int (bI wg)])), (ot, .inl (c3, 256, .inl v_33.1))]) [1, 2] (by decide) rfl
        have hKc := hK.sub (tys' := [(c3, .int)]) [1] rfl
        have hFc := va_free (wc := [(q, .inr (5, [.int th, .ref tx, .int (nI mz), .int fl, .int (bI it), .long al, .ref pt, .int (nI dg), .ref ot, .int (nI v_33.2), .int (nI kz), .ref ka, .ref kd, .ref kp, .int (nI ma), .int (bI wg)])), (ot, .inl (c3, 256, .inl v_33.1))]) hD hS hA [1, 2] rfl
        refine kc_callv (wr := [(pt, .inl (c2, 256, .inl PD))]) (w1 := [(q, .inr (5, [.int th, .ref tx, .int (nI mz), .int fl, .int (bI it), .long al, .ref pt, .int (nI dg), .ref ot, .int (nI (mPut2 v_33.1 v_33.2 (mUnit al dg 2)).2), .int (nI kz), .ref ka, .ref kd, .ref kp, .int (nI ma), .int (bI wg)])), (ot, .inl (c3, 256, .inl (mPut2 v_33.1 v_33.2 (mUnit al dg 2)).1))]) (va_runV (As := [.int (mUnit al dg 2), .int 2]) (rest := []) ⟨hx, hb, hml, hown, hts⟩ (m_put2 l dC dI st H.size q th tx mz fl it al pt dg ot v_33.2 kz ka kd kp ma wg c3 v_33.1 (mUnit al dg 2) (by omega)) (cwV 2 hts (kwV kwm_273 kwm_274 kwm_275 kwm_203 kwm_272) rfl rfl rfl (by decide +kernel) ⟨Nat.le_of_ble_eq_true rfl, Nat.le_of_ble_eq_true rfl⟩) ⟨kc_blind, va_recv hKc hPc (ci := 5) (q0 := 0) rfl rfl, kc_pre hG hS hFc hKc hPc hDc⟩ rfl rfl hl.1 rfl (lv_room (Nat.le_of_ble_eq_true rfl)) dX5_write_33 ⟨Nat.le_of_ble_eq_true rfl, Nat.le_of_ble_eq_true rfl⟩) hP hD hS hFc [1, 2] [0] rfl rfl (by decide) (by decide) (fun H locs hP hD hS => ?_)
        have hP : va_P (dC, dI) kcl [(pt, .inl (c2, 256, .inl PD)), (q, .inr (5, [.int th, .ref tx, .int (nI mz), .int fl, .int (bI it), .long al, .ref pt, .int (nI dg), .ref ot, .int (nI (mPut2 v_33.1 v_33.2 (mUnit al dg 2)).2), .int (nI kz), .ref ka, .ref kd, .ref kp, .int (nI ma), .int (bI wg)])), (ot, .inl (c3, 256, .inl (mPut2 v_33.1 v_33.2 (mUnit al dg 2)).1))] H := hP
        have hD : va_D A [(pt, .inl (c2, 256, .inl PD)), (q, .inr (5, [.int th, .ref tx, .int (nI mz), .int fl, .int (bI it), .long al, .ref pt, .int (nI dg), .ref ot, .int (nI (mPut2 v_33.1 v_33.2 (mUnit al dg 2)).2), .int (nI kz), .ref ka, .ref kd, .ref kp, .int (nI ma), .int (bI wg)])), (ot, .inl (c3, 256, .inl (mPut2 v_33.1 v_33.2 (mUnit al dg 2)).1))] := hD
        generalize e_33a : mPut2 v_33.1 v_33.2 (mUnit al dg 2) = v_33a at hP hD ⊢
        have hP : va_P (dC, dI) kcl [(pt, .inl (c2, 256, .inl PD)), (q, .inr (5, [.int th, .ref tx, .int (nI mz), .int fl, .int (bI it), .long al, .ref pt, .int (nI dg), .ref ot, .int (nI v_33a.2), .int (nI kz), .ref ka, .ref kd, .ref kp, .int (nI ma), .int (bI wg)])), (ot, .inl (c3, 256, .inl v_33a.1))] H := hP
        have hD : va_D A [(pt, .inl (c2, 256, .inl PD)), (q, .inr (5, [.int th, .ref tx, .int (nI mz), .int fl, .int (bI it), .long al, .ref pt, .int (nI dg), .ref ot, .int (nI v_33a.2), .int (nI kz), .ref ka, .ref kd, .ref kp, .int (nI ma), .int (bI wg)])), (ot, .inl (c3, 256, .inl v_33a.1))] := hD
        have hp33a : v_33a.2 = v_33.2 + 1 + 1 := by rw [← e_33a]; rfl
        refine lv_iinc (v := 3) (lv' := [(2, .int 3), (0, .ref q), (1, .int kind)]) hx hb dX5_write_36 hl (k := 0) rfl (by decide) (by decide) rfl (fun ls hl => ?_)
        refine lv_goto (tgt := 20) hx hb dX5_write_39 (by decide) ?_
        refine lv_iload_n hx hb dX5_write_20 rfl (lv_at hl 0 rfl) ?_
        refine lv_bipush (v := 6) hx hb dX5_write_21 (by decide) ?_
        refine lv_icmp_ge (tgt := 42) hx hb dX5_write_23 (by decide) (fun c_23 => ?_) (fun c_23 => ?_)
        · exact absurd c_23 (by decide)
        · refine lv_aload_n hx hb dX5_write_26 rfl (lv_at hl 1 rfl) ?_
          refine lv_aload_n hx hb dX5_write_27 rfl (lv_at hl 1 rfl) ?_
          refine lv_iload_n hx hb dX5_write_28 rfl (lv_at hl 0 rfl) ?_
          have hPc := hP.sub (ws' := [(q, .inr (5, [.int th, .ref tx, .int (nI mz), .int fl, .int (bI it), .long al, .ref pt, .int (nI dg), .ref ot, .int (nI v_33a.2), .int (nI kz), .ref ka, .ref kd, .ref kp, .int (nI ma), .int (bI wg)]))]) [1] rfl
          have hDc := hD.sub (ws' := [(q, .inr (5, [.int th, .ref tx, .int (nI mz), .int fl, .int (bI it), .long al, .ref pt, .int (nI dg), .ref ot, .int (nI v_33a.2), .int (nI kz), .ref ka, .ref kd, .ref kp, .int (nI ma), .int (bI wg)]))]) [1] (by decide) rfl
          have hKc := hK.sub (tys' := []) [] rfl
          have hFc := va_free (wc := [(q, .inr (5, [.int th, .ref tx, .int (nI mz), .int fl, .int (bI it), .long al, .ref pt, .int (nI dg), .ref ot, .int (nI v_33a.2), .int (nI kz), .ref ka, .ref kd, .ref kp, .int (nI ma), .int (bI wg)]))]) hD hS hA [1] rfl
          refine kc_callSi (val := mUnit al dg 3) (va_runV (As := [.int 3]) (rest := [.ref q]) ⟨hx, hb, hml, hown, hts⟩ (m_unitOf l dC dI st H.size q th tx mz fl it al pt dg ot v_33a.2 kz ka kd kp ma wg 3 hY hM hM2) (cwV 1 hts (kwV kwm_277 kwm_278 kwm_279 kwm_203 kwm_276) rfl rfl rfl (by decide +kernel) ⟨Nat.le_of_ble_eq_true rfl, Nat.le_of_ble_eq_true rfl⟩) ⟨kc_blind, va_recv hKc hPc (ci := 5) (q0 := 0) rfl rfl, kc_pre hG hS hFc hKc hPc hDc⟩ rfl rfl hl.1 rfl (lv_room (Nat.le_of_ble_eq_true rfl)) dX5_write_29 ⟨Nat.le_of_ble_eq_true rfl, Nat.le_of_ble_eq_true rfl⟩) ?_
          refine lv_iconst (v := 2) hx hb dX5_write_32 (by decide) ?_
          have hPc := hP.sub (ws' := [(q, .inr (5, [.int th, .ref tx, .int (nI mz), .int fl, .int (bI it), .long al, .ref pt, .int (nI dg), .ref ot, .int (nI v_33a.2), .int (nI kz), .ref ka, .ref kd, .ref kp, .int (nI ma), .int (bI wg)])), (ot, .inl (c3, 256, .inl v_33a.1))]) [1, 2] rfl
          have hDc := hD.sub (ws' := [(q, .inr (5, [.int th, .ref tx, .int (nI mz), .int fl, .int (bI it), .long al, .ref pt, .int (nI dg), .ref ot, .int (nI v_33a.2), .int (nI kz), .ref ka, .ref kd, .ref kp, .int (nI ma), .int (bI wg)])), (ot, .inl (c3, 256, .inl v_33a.1))]) [1, 2] (by decide) rfl
          have hKc := hK.sub (tys' := [(c3, .int)]) [1] rfl
          have hFc := va_free (wc := [(q, .inr (5, [.int th, .ref tx, .int (nI mz), .int fl, .int (bI it), .long al, .ref pt, .int (nI dg), .ref ot, .int (nI v_33a.2), .int (nI kz), .ref ka, .ref kd, .ref kp, .int (nI ma), .int (bI wg)])), (ot, .inl (c3, 256, .inl v_33a.1))]) hD hS hA [1, 2] rfl
          refine kc_callv (wr := [(pt, .inl (c2, 256, .inl PD))]) (w1 := [(q, .inr (5, [.int th, .ref tx, .int (nI mz), .int fl, .int (bI it), .long al, .ref pt, .int (nI dg), .ref ot, .int (nI (mPut2 v_33a.1 v_33a.2 (mUnit al dg 3)).2), .int (nI kz), .ref ka, .ref kd, .ref kp, .int (nI ma), .int (bI wg)])), (ot, .inl (c3, 256, .inl (mPut2 v_33a.1 v_33a.2 (mUnit al dg 3)).1))]) (va_runV (As := [.int (mUnit al dg 3), .int 2]) (rest := []) ⟨hx, hb, hml, hown, hts⟩ (m_put2 l dC dI st H.size q th tx mz fl it al pt dg ot v_33a.2 kz ka kd kp ma wg c3 v_33a.1 (mUnit al dg 3) (by omega)) (cwV 2 hts (kwV kwm_273 kwm_274 kwm_275 kwm_203 kwm_272) rfl rfl rfl (by decide +kernel) ⟨Nat.le_of_ble_eq_true rfl, Nat.le_of_ble_eq_true rfl⟩) ⟨kc_blind, va_recv hKc hPc (ci := 5) (q0 := 0) rfl rfl, kc_pre hG hS hFc hKc hPc hDc⟩ rfl rfl hl.1 rfl (lv_room (Nat.le_of_ble_eq_true rfl)) dX5_write_33 ⟨Nat.le_of_ble_eq_true rfl, Nat.le_of_ble_eq_true rfl⟩) hP hD hS hFc [1, 2] [0] rfl rfl (by decide) (by decide) (fun H locs hP hD hS => ?_)
          have hP : va_P (dC, dI) kcl [(pt, .inl (c2, 256, .inl PD)), (q, .inr (5, [.int th, .ref tx, .int (nI mz), .int fl, .int (bI it), .long al, .ref pt, .int (nI dg), .ref ot, .int (nI (mPut2 v_33a.1 v_33a.2 (mUnit al dg 3)).2), .int (nI kz), .ref ka, .ref kd, .ref kp, .int (nI ma), .int (bI wg)])), (ot, .inl (c3, 256, .inl (mPut2 v_33a.1 v_33a.2 (mUnit al dg 3)).1))] H := hP
          have hD : va_D A [(pt, .inl (c2, 256, .inl PD)), (q, .inr (5, [.int th, .ref tx, .int (nI mz), .int fl, .int (bI it), .long al, .ref pt, .int (nI dg), .ref ot, .int (nI (mPut2 v_33a.1 v_33a.2 (mUnit al dg 3)).2), .int (nI kz), .ref ka, .ref kd, .ref kp, .int (nI ma), .int (bI wg)])), (ot, .inl (c3, 256, .inl (mPut2 v_33a.1 v_33a.2 (mUnit al dg 3)).1))] := hD
          generalize e_33aa : mPut2 v_33a.1 v_33a.2 (mUnit al dg 3) = v_33aa at hP hD ⊢
          have hP : va_P (dC, dI) kcl [(pt, .inl (c2, 256, .inl PD)), (q, .inr (5, [.int th, .ref tx, .int (nI mz), .int fl, .int (bI it), .long al, .ref pt, .int (nI dg), .ref ot, .int (nI v_33aa.2), .int (nI kz), .ref ka, .ref kd, .ref kp, .int (nI ma), .int (bI wg)])), (ot, .inl (c3, 256, .inl v_33aa.1))] H := hP
          have hD : va_D A [(pt, .inl (c2, 256, .inl PD)), (q, .inr (5, [.int th, .ref tx, .int (nI mz), .int fl, .int (bI it), .long al, .ref pt, .int (nI dg), .ref ot, .int (nI v_33aa.2), .int (nI kz), .ref ka, .ref kd, .ref kp, .int (nI ma), .int (bI wg)])), (ot, .inl (c3, 256, .inl v_33aa.1))] := hD
          have hp33aa : v_33aa.2 = v_33a.2 + 1 + 1 := by rw [← e_33aa]; rfl
          refine lv_iinc (v := 4) (lv' := [(2, .int 4), (0, .ref q), (1, .int kind)]) hx hb dX5_write_36 hl (k := 0) rfl (by decide) (by decide) rfl (fun ls hl => ?_)
          refine lv_goto (tgt := 20) hx hb dX5_write_39 (by decide) ?_
          refine lv_iload_n hx hb dX5_write_20 rfl (lv_at hl 0 rfl) ?_
          refine lv_bipush (v := 6) hx hb dX5_write_21 (by decide) ?_
          refine lv_icmp_ge (tgt := 42) hx hb dX5_write_23 (by decide) (fun c_23 => ?_) (fun c_23 => ?_)
          · exact absurd c_23 (by decide)
          · refine lv_aload_n hx hb dX5_write_26 rfl (lv_at hl 1 rfl) ?_
            refine lv_aload_n hx hb dX5_write_27 rfl (lv_at hl 1 rfl) ?_
            refine lv_iload_n hx hb dX5_write_28 rfl (lv_at hl 0 rfl) ?_
            have hPc := hP.sub (ws' := [(q, .inr (5, [.int th, .ref tx, .int (nI mz), .int fl, .int (bI it), .long al, .ref pt, .int (nI dg), .ref ot, .int (nI v_33aa.2), .int (nI kz), .ref ka, .ref kd, .ref kp, .int (nI ma), .int (bI wg)]))]) [1] rfl
            have hDc := hD.sub (ws' := [(q, .inr (5, [.int th, .ref tx, .int (nI mz), .int fl, .int (bI it), .long al, .ref pt, .int (nI dg), .ref ot, .int (nI v_33aa.2), .int (nI kz), .ref ka, .ref kd, .ref kp, .int (nI ma), .int (bI wg)]))]) [1] (by decide) rfl
            have hKc := hK.sub (tys' := []) [] rfl
            have hFc := va_free (wc := [(q, .inr (5, [.int th, .ref tx, .int (nI mz), .int fl, .int (bI it), .long al, .ref pt, .int (nI dg), .ref ot, .int (nI v_33aa.2), .int (nI kz), .ref ka, .ref kd, .ref kp, .int (nI ma), .int (bI wg)]))]) hD hS hA [1] rfl
            refine kc_callSi (val := mUnit al dg 4) (va_runV (As := [.int 4]) (rest := [.ref q]) ⟨hx, hb, hml, hown, hts⟩ (m_unitOf l dC dI st H.size q th tx mz fl it al pt dg ot v_33aa.2 kz ka kd kp ma wg 4 hY hM hM2) (cwV 1 hts (kwV kwm_277 kwm_278 kwm_279 kwm_203 kwm_276) rfl rfl rfl (by decide +kernel) ⟨Nat.le_of_ble_eq_true rfl, Nat.le_of_ble_eq_true rfl⟩) ⟨kc_blind, va_recv hKc hPc (ci := 5) (q0 := 0) rfl rfl, kc_pre hG hS hFc hKc hPc hDc⟩ rfl rfl hl.1 rfl (lv_room (Nat.le_of_ble_eq_true rfl)) dX5_write_29 ⟨Nat.le_of_ble_eq_true rfl, Nat.le_of_ble_eq_true rfl⟩) ?_
            refine lv_iconst (v := 2) hx hb dX5_write_32 (by decide) ?_
            have hPc := hP.sub (ws' := [(q, .inr (5, [.int th, .ref tx, .int (nI mz), .int fl, .int (bI it), .long al, .ref pt, .int (nI dg), .ref ot, .int (nI v_33aa.2), .int (nI kz), .ref ka, .ref kd, .ref kp, .int (nI ma), .int (bI wg)])), (ot, .inl (c3, 256, .inl v_33aa.1))]) [1, 2] rfl
            have hDc := hD.sub (ws' := [(q, .inr (5, [.int th, .ref tx, .int (nI mz), .int fl, .int (bI it), .long al, .ref pt, .int (nI dg), .ref ot, .int (nI v_33aa.2), .int (nI kz), .ref ka, .ref kd, .ref kp, .int (nI ma), .int (bI wg)])), (ot, .inl (c3, 256, .inl v_33aa.1))]) [1, 2] (by decide) rfl
            have hKc := hK.sub (tys' := [(c3, .int)]) [1] rfl
            have hFc := va_free (wc := [(q, .inr (5, [.int th, .ref tx, .int (nI mz), .int fl, .int (bI it), .long al, .ref pt, .int (nI dg), .ref ot, .int (nI v_33aa.2), .int (nI kz), .ref ka, .ref kd, .ref kp, .int (nI ma), .int (bI wg)])), (ot, .inl (c3, 256, .inl v_33aa.1))]) hD hS hA [1, 2] rfl
            refine kc_callv (wr := [(pt, .inl (c2, 256, .inl PD))]) (w1 := [(q, .inr (5, [.int th, .ref tx, .int (nI mz), .int fl, .int (bI it), .long al, .ref pt, .int (nI dg), .ref ot, .int (nI (mPut2 v_33aa.1 v_33aa.2 (mUnit al dg 4)).2), .int (nI kz), .ref ka, .ref kd, .ref kp, .int (nI ma), .int (bI wg)])), (ot, .inl (c3, 256, .inl (mPut2 v_33aa.1 v_33aa.2 (mUnit al dg 4)).1))]) (va_runV (As := [.int (mUnit al dg 4), .int 2]) (rest := []) ⟨hx, hb, hml, hown, hts⟩ (m_put2 l dC dI st H.size q th tx mz fl it al pt dg ot v_33aa.2 kz ka kd kp ma wg c3 v_33aa.1 (mUnit al dg 4) (by omega)) (cwV 2 hts (kwV kwm_273 kwm_274 kwm_275 kwm_203 kwm_272) rfl rfl rfl (by decide +kernel) ⟨Nat.le_of_ble_eq_true rfl, Nat.le_of_ble_eq_true rfl⟩) ⟨kc_blind, va_recv hKc hPc (ci := 5) (q0 := 0) rfl rfl, kc_pre hG hS hFc hKc hPc hDc⟩ rfl rfl hl.1 rfl (lv_room (Nat.le_of_ble_eq_true rfl)) dX5_write_33 ⟨Nat.le_of_ble_eq_true rfl, Nat.le_of_ble_eq_true rfl⟩) hP hD hS hFc [1, 2] [0] rfl rfl (by decide) (by decide) (fun H locs hP hD hS => ?_)
            have hP : va_P (dC, dI) kcl [(pt, .inl (c2, 256, .inl PD)), (q, .inr (5, [.int th, .ref tx, .int (nI mz), .int fl, .int (bI it), .long al, .ref pt, .int (nI dg), .ref ot, .int (nI (mPut2 v_33aa.1 v_33aa.2 (mUnit al dg 4)).2), .int (nI kz), .ref ka, .ref kd, .ref kp, .int (nI ma), .int (bI wg)])), (ot, .inl (c3, 256, .inl (mPut2 v_33aa.1 v_33aa.2 (mUnit al dg 4)).1))] H := hP
            have hD : va_D A [(pt, .inl (c2, 256, .inl PD)), (q, .inr (5, [.int th, .ref tx, .int (nI mz), .int fl, .int (bI it), .long al, .ref pt, .int (nI dg), .ref ot, .int (nI (mPut2 v_33aa.1 v_33aa.2 (mUnit al dg 4)).2), .int (nI kz), .ref ka, .ref kd, .ref kp, .int (nI ma), .int (bI wg)])), (ot, .inl (c3, 256, .inl (mPut2 v_33aa.1 v_33aa.2 (mUnit al dg 4)).1))] := hD
            generalize e_33aaa : mPut2 v_33aa.1 v_33aa.2 (mUnit al dg 4) = v_33aaa at hP hD ⊢
            have hP : va_P (dC, dI) kcl [(pt, .inl (c2, 256, .inl PD)), (q, .inr (5, [.int th, .ref tx, .int (nI mz), .int fl, .int (bI it), .long al, .ref pt, .int (nI dg), .ref ot, .int (nI v_33aaa.2), .int (nI kz), .ref ka, .ref kd, .ref kp, .int (nI ma), .int (bI wg)])), (ot, .inl (c3, 256, .inl v_33aaa.1))] H := hP
            have hD : va_D A [(pt, .inl (c2, 256, .inl PD)), (q, .inr (5, [.int th, .ref tx, .int (nI mz), .int fl, .int (bI it), .long al, .ref pt, .int (nI dg), .ref ot, .int (nI v_33aaa.2), .int (nI kz), .ref ka, .ref kd, .ref kp, .int (nI ma), .int (bI wg)])), (ot, .inl (c3, 256, .inl v_33aaa.1))] := hD
            have hp33aaa : v_33aaa.2 = v_33aa.2 + 1 + 1 := by rw [← e_33aaa]; rfl
            refine lv_iinc (v := 5) (lv' := [(2, .int 5), (0, .ref q), (1, .int kind)]) hx hb dX5_write_36 hl (k := 0) rfl (by decide) (by decide) rfl (fun ls hl => ?_)
            refine lv_goto (tgt := 20) hx hb dX5_write_39 (by decide) ?_
            refine lv_iload_n hx hb dX5_write_20 rfl (lv_at hl 0 rfl) ?_
            refine lv_bipush (v := 6) hx hb dX5_write_21 (by decide) ?_
            refine lv_icmp_ge (tgt := 42) hx hb dX5_write_23 (by decide) (fun c_23 => ?_) (fun c_23 => ?_)
            · exact absurd c_23 (by decide)
            · refine lv_aload_n hx hb dX5_write_26 rfl (lv_at hl 1 rfl) ?_
              refine lv_aload_n hx hb dX5_write_27 rfl (lv_at hl 1 rfl) ?_
              refine lv_iload_n hx hb dX5_write_28 rfl (lv_at hl 0 rfl) ?_
              have hPc := hP.sub (ws' := [(q, .inr (5, [.int th, .ref tx, .int (nI mz), .int fl, .int (bI it), .long al, .ref pt, .int (nI dg), .ref ot, .int (nI v_33aaa.2), .int (nI kz), .ref ka, .ref kd, .ref kp, .int (nI ma), .int (bI wg)]))]) [1] rfl
              have hDc := hD.sub (ws' := [(q, .inr (5, [.int th, .ref tx, .int (nI mz), .int fl, .int (bI it), .long al, .ref pt, .int (nI dg), .ref ot, .int (nI v_33aaa.2), .int (nI kz), .ref ka, .ref kd, .ref kp, .int (nI ma), .int (bI wg)]))]) [1] (by decide) rfl
              have hKc := hK.sub (tys' := []) [] rfl
              have hFc := va_free (wc := [(q, .inr (5, [.int th, .ref tx, .int (nI mz), .int fl, .int (bI it), .long al, .ref pt, .int (nI dg), .ref ot, .int (nI v_33aaa.2), .int (nI kz), .ref ka, .ref kd, .ref kp, .int (nI ma), .int (bI wg)]))]) hD hS hA [1] rfl
              refine kc_callSi (val := mUnit al dg 5) (va_runV (As := [.int 5]) (rest := [.ref q]) ⟨hx, hb, hml, hown, hts⟩ (m_unitOf l dC dI st H.size q th tx mz fl it al pt dg ot v_33aaa.2 kz ka kd kp ma wg 5 hY hM hM2) (cwV 1 hts (kwV kwm_277 kwm_278 kwm_279 kwm_203 kwm_276) rfl rfl rfl (by decide +kernel) ⟨Nat.le_of_ble_eq_true rfl, Nat.le_of_ble_eq_true rfl⟩) ⟨kc_blind, va_recv hKc hPc (ci := 5) (q0 := 0) rfl rfl, kc_pre hG hS hFc hKc hPc hDc⟩ rfl rfl hl.1 rfl (lv_room (Nat.le_of_ble_eq_true rfl)) dX5_write_29 ⟨Nat.le_of_ble_eq_true rfl, Nat.le_of_ble_eq_true rfl⟩) ?_
              refine lv_iconst (v := 2) hx hb dX5_write_32 (by decide) ?_
              have hPc := hP.sub (ws' := [(q, .inr (5, [.int th, .ref tx, .int (nI mz), .int fl, .int (bI it), .long al, .ref pt, .int (nI dg), .ref ot, .int (nI v_33aaa.2), .int (nI kz), .ref ka, .ref kd, .ref kp, .int (nI ma), .int (bI wg)])), (ot, .inl (c3, 256, .inl v_33aaa.1))]) [1, 2] rfl
              have hDc := hD.sub (ws' := [(q, .inr (5, [.int th, .ref tx, .int (nI mz), .int fl, .int (bI it), .long al, .ref pt, .int (nI dg), .ref ot, .int (nI v_33aaa.2), .int (nI kz), .ref ka, .ref kd, .ref kp, .int (nI ma), .int (bI wg)])), (ot, .inl (c3, 256, .inl v_33aaa.1))]) [1, 2] (by decide) rfl
              have hKc := hK.sub (tys' := [(c3, .int)]) [1] rfl
              have hFc := va_free (wc := [(q, .inr (5, [.int th, .ref tx, .int (nI mz), .int fl, .int (bI it), .long al, .ref pt, .int (nI dg), .ref ot, .int (nI v_33aaa.2), .int (nI kz), .ref ka, .ref kd, .ref kp, .int (nI ma), .int (bI wg)])), (ot, .inl (c3, 256, .inl v_33aaa.1))]) hD hS hA [1, 2] rfl
              refine kc_callv (wr := [(pt, .inl (c2, 256, .inl PD))]) (w1 := [(q, .inr (5, [.int th, .ref tx, .int (nI mz), .int fl, .int (bI it), .long al, .ref pt, .int (nI dg), .ref ot, .int (nI (mPut2 v_33aaa.1 v_33aaa.2 (mUnit al dg 5)).2), .int (nI kz), .ref ka, .ref kd, .ref kp, .int (nI ma), .int (bI wg)])), (ot, .inl (c3, 256, .inl (mPut2 v_33aaa.1 v_33aaa.2 (mUnit al dg 5)).1))]) (va_runV (As := [.int (mUnit al dg 5), .int 2]) (rest := []) ⟨hx, hb, hml, hown, hts⟩ (m_put2 l dC dI st H.size q th tx mz fl it al pt dg ot v_33aaa.2 kz ka kd kp ma wg c3 v_33aaa.1 (mUnit al dg 5) (by omega)) (cwV 2 hts (kwV kwm_273 kwm_274 kwm_275 kwm_203 kwm_272) rfl rfl rfl (by decide +kernel) ⟨Nat.le_of_ble_eq_true rfl, Nat.le_of_ble_eq_true rfl⟩) ⟨kc_blind, va_recv hKc hPc (ci := 5) (q0 := 0) rfl rfl, kc_pre hG hS hFc hKc hPc hDc⟩ rfl rfl hl.1 rfl (lv_room (Nat.le_of_ble_eq_true rfl)) dX5_write_33 ⟨Nat.le_of_ble_eq_true rfl, Nat.le_of_ble_eq_true rfl⟩) hP hD hS hFc [1, 2] [0] rfl rfl (by decide) (by decide) (fun H locs hP hD hS => ?_)
              have hP : va_P (dC, dI) kcl [(pt, .inl (c2, 256, .inl PD)), (q, .inr (5, [.int th, .ref tx, .int (nI mz), .int fl, .int (bI it), .long al, .ref pt, .int (nI dg), .ref ot, .int (nI (mPut2 v_33aaa.1 v_33aaa.2 (mUnit al dg 5)).2), .int (nI kz), .ref ka, .ref kd, .ref kp, .int (nI ma), .int (bI wg)])), (ot, .inl (c3, 256, .inl (mPut2 v_33aaa.1 v_33aaa.2 (mUnit al dg 5)).1))] H := hP
              have hD : va_D A [(pt, .inl (c2, 256, .inl PD)), (q, .inr (5, [.int th, .ref tx, .int (nI mz), .int fl, .int (bI it), .long al, .ref pt, .int (nI dg), .ref ot, .int (nI (mPut2 v_33aaa.1 v_33aaa.2 (mUnit al dg 5)).2), .int (nI kz), .ref ka, .ref kd, .ref kp, .int (nI ma), .int (bI wg)])), (ot, .inl (c3, 256, .inl (mPut2 v_33aaa.1 v_33aaa.2 (mUnit al dg 5)).1))] := hD
              generalize e_33aaaa : mPut2 v_33aaa.1 v_33aaa.2 (mUnit al dg 5) = v_33aaaa at hP hD ⊢
              have hP : va_P (dC, dI) kcl [(pt, .inl (c2, 256, .inl PD)), (q, .inr (5, [.int th, .ref tx, .int (nI mz), .int fl, .int (bI it), .long al, .ref pt, .int (nI dg), .ref ot, .int (nI v_33aaaa.2), .int (nI kz), .ref ka, .ref kd, .ref kp, .int (nI ma), .int (bI wg)])), (ot, .inl (c3, 256, .inl v_33aaaa.1))] H := hP
              have hD : va_D A [(pt, .inl (c2, 256, .inl PD)), (q, .inr (5, [.int th, .ref tx, .int (nI mz), .int fl, .int (bI it), .long al, .ref pt, .int (nI dg), .ref ot, .int (nI v_33aaaa.2), .int (nI kz), .ref ka, .ref kd, .ref kp, .int (nI ma), .int (bI wg)])), (ot, .inl (c3, 256, .inl v_33aaaa.1))] := hD
              have hp33aaaa : v_33aaaa.2 = v_33aaa.2 + 1 + 1 := by rw [← e_33aaaa]; rfl
              refine lv_iinc (v := 6) (lv' := [(2, .int 6), (0, .ref q), (1, .int kind)]) hx hb dX5_write_36 hl (k := 0) rfl (by decide) (by decide) rfl (fun ls hl => ?_)
              refine lv_goto (tgt := 20) hx hb dX5_write_39 (by decide) ?_
              refine lv_iload_n hx hb dX5_write_20 rfl (lv_at hl 0 rfl) ?_
              refine lv_bipush (v := 6) hx hb dX5_write_21 (by decide) ?_
              refine lv_icmp_ge (tgt := 42) hx hb dX5_write_23 (by decide) (fun c_23 => ?_) (fun c_23 => ?_)
              · refine lv_aload_n hx hb dX5_write_42 rfl (lv_at hl 1 rfl) ?_
                refine va_get (D := (dC, dI)) (ci := 5) (v := .int (nI dg)) (C := RX5) (T := TX5) (N := 16) hx hb hts kin_5 hown hK hP 1 rfl rfl 7 (by decide) (hts _ (kcm kwm_236)) (fun _ h9 => h9) rfl dX5_write_43 ?_
                refine lv_if_le (tgt := 70) hx hb dX5_write_46 (by decide) (fun c_46 => ?_) (fun c_46 => ?_)
                · refine lv_iconst (v := 0) hx hb dX5_write_70 (by decide) ?_
                  refine lv_istore_n (lv' := [(2, .int 0), (0, .ref q), (1, .int kind)]) hx hb dX5_write_71 rfl hl (by decide) rfl (fun ls hl => ?_)
                  have hF9 : mWrite al dg PD kind U wr = (upd (wpL PD dg dg 0 v_33aaaa.1 v_33aaaa.2).1 (wpL PD dg dg 0 v_33aaaa.1 v_33aaaa.2).2 90, (wpL PD dg dg 0 v_33aaaa.1 v_33aaaa.2).2 + 1) := by
                    subst e_33aaaa
                    subst e_33aaa
                    subst e_33aa
                    subst e_33a
                    subst e_33
                    subst e_15
                    first | (simp only [mWrite, if_pos c_7, if_pos c_46]; done) | rfl
                  rw [hF9]
                  exact lp_wri dC dI st q th tx mz fl it al pt dg ot kz ka kd kp ma wg c2 PD c3 kind (wpL PD dg dg 0 v_33aaaa.1 v_33aaaa.2) hdg Cx hA hG hK dg 0 v_33aaaa.1 v_33aaaa.2 (by omega) (by omega) (by omega) rfl H locs ls (hP.sub [1, 0, 2] rfl) (hD.sub [1, 0, 2] (by decide) rfl) hS (lv_sub hl [1, 2, 0] rfl)
                · refine lv_aload_n hx hb dX5_write_49 rfl (lv_at hl 1 rfl) ?_
                  refine va_get (D := (dC, dI)) (ci := 5) (v := .ref ot) (C := RX5) (T := TX5) (N := 16) hx hb hts kin_5 hown hK hP 1 rfl rfl 8 (by decide) (hts _ (kcm kwm_270)) (fun _ h9 => h9) rfl dX5_write_50 ?_
                  refine lv_aload_n hx hb dX5_write_53 rfl (lv_at hl 1 rfl) ?_
                  refine va_get (D := (dC, dI)) (ci := 5) (v := .int (nI v_33aaaa.2)) (C := RX5) (T := TX5) (N := 16) hx hb hts kin_5 hown hK hP 1 rfl rfl 9 (by decide) (hts _ (kcm kwm_271)) (fun _ h9 => h9) rfl dX5_write_54 ?_
                  refine lv_bipush (v := 46) hx hb dX5_write_57 (by decide) ?_
                  refine va_iast hx hb hK hP hD hS 2 1 rfl rfl (vp_in_nI (by omega) (by decide)) dX5_write_59 (fun H locs hP hD hS => ?_)
                  rw [show (nI v_33aaaa.2).toNatClampNeg = v_33aaaa.2 from nI_clamp (by omega)] at hP hD
                  have hP : va_P (dC, dI) kcl [(pt, .inl (c2, 256, .inl PD)), (q, .inr (5, [.int th, .ref tx, .int (nI mz), .int fl, .int (bI it), .long al, .ref pt, .int (nI dg), .ref ot, .int (nI v_33aaaa.2), .int (nI kz), .ref ka, .ref kd, .ref kp, .int (nI ma), .int (bI wg)])), (ot, .inl (c3, 256, .inl (upd v_33aaaa.1 v_33aaaa.2 46)))] H := hP
                  have hD : va_D A [(pt, .inl (c2, 256, .inl PD)), (q, .inr (5, [.int th, .ref tx, .int (nI mz), .int fl, .int (bI it), .long al, .ref pt, .int (nI dg), .ref ot, .int (nI v_33aaaa.2), .int (nI kz), .ref ka, .ref kd, .ref kp, .int (nI ma), .int (bI wg)])), (ot, .inl (c3, 256, .inl (upd v_33aaaa.1 v_33aaaa.2 46)))] := hD
                  refine lv_aload_n hx hb dX5_write_60 rfl (lv_at hl 1 rfl) ?_
                  refine lv_dup hx hb dX5_write_61 rfl ?_
                  refine va_get (D := (dC, dI)) (ci := 5) (v := .int (nI v_33aaaa.2)) (C := RX5) (T := TX5) (N := 16) hx hb hts kin_5 hown hK hP 1 rfl rfl 9 (by decide) (hts _ (kcm kwm_271)) (fun _ h9 => h9) rfl dX5_write_62 ?_
                  refine lv_iconst (v := 1) hx hb dX5_write_65 (by decide) ?_
                  refine lv_iadd hx hb dX5_write_66 ?_
                  rw [show (nI v_33aaaa.2) + 1 = nI (v_33aaaa.2 + 1) from nI_add v_33aaaa.2 1]
                  refine va_put (D := (dC, dI)) (ci := 5) (v := .int (nI (v_33aaaa.2 + 1))) (ty := .int) (C := RX5) (T := TX5) (N := 16) hx hb hts kin_5 tyX5 tyX5_ok nmX5 hown hK hP hD hS 1 rfl rfl 9 (by decide) (hts _ (kcm kwm_271)) (fun _ h9 => h9) rfl (by decide +kernel) rfl rfl (Nat.le_of_ble_eq_true rfl) dX5_write_67 (fun H locs hP hD hS => ?_)
                  have hP : va_P (dC, dI) kcl [(pt, .inl (c2, 256, .inl PD)), (q, .inr (5, [.int th, .ref tx, .int (nI mz), .int fl, .int (bI it), .long al, .ref pt, .int (nI dg), .ref ot, .int (nI (v_33aaaa.2 + 1)), .int (nI kz), .ref ka, .ref kd, .ref kp, .int (nI ma), .int (bI wg)])), (ot, .inl (c3, 256, .inl (upd v_33aaaa.1 v_33aaaa.2 46)))] H := hP
                  have hD : va_D A [(pt, .inl (c2, 256, .inl PD)), (q, .inr (5, [.int th, .ref tx, .int (nI mz), .int fl, .int (bI it), .long al, .ref pt, .int (nI dg), .ref ot, .int (nI (v_33aaaa.2 + 1)), .int (nI kz), .ref ka, .ref kd, .ref kp, .int (nI ma), .int (bI wg)])), (ot, .inl (c3, 256, .inl (upd v_33aaaa.1 v_33aaaa.2 46)))] := hD
                  refine lv_iconst (v := 0) hx hb dX5_write_70 (by decide) ?_
                  refine lv_istore_n (lv' := [(2, .int 0), (0, .ref q), (1, .int kind)]) hx hb dX5_write_71 rfl hl (by decide) rfl (fun ls hl => ?_)
                  have hF9 : mWrite al dg PD kind U wr = (upd (wpL PD dg dg 0 (upd v_33aaaa.1 v_33aaaa.2 46) (v_33aaaa.2 + 1)).1 (wpL PD dg dg 0 (upd v_33aaaa.1 v_33aaaa.2 46) (v_33aaaa.2 + 1)).2 90, (wpL PD dg dg 0 (upd v_33aaaa.1 v_33aaaa.2 46) (v_33aaaa.2 + 1)).2 + 1) := by
                    subst e_33aaaa
                    subst e_33aaa
                    subst e_33aa
                    subst e_33a
                    subst e_33
                    subst e_15
                    first | (simp only [mWrite, if_pos c_7, if_neg c_46]; done) | rfl
                  rw [hF9]
                  exact lp_wri dC dI st q th tx mz fl it al pt dg ot kz ka kd kp ma wg c2 PD c3 kind (wpL PD dg dg 0 (upd v_33aaaa.1 v_33aaaa.2 46) (v_33aaaa.2 + 1)) hdg Cx hA hG hK dg 0 (upd v_33aaaa.1 v_33aaaa.2 46) (v_33aaaa.2 + 1) (by omega) (by omega) (by omega) rfl H locs ls (hP.sub [1, 0, 2] rfl) (hD.sub [1, 0, 2] (by decide) rfl) hS (lv_sub hl [1, 2, 0] rfl)
              · exact absurd (by decide) c_23
