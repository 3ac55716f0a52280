def rdUnits (f : Nat → Int32) (n : Nat) (ta hh mi ss : Int32) : Int32 × Int32 × Int32 × Int32 × Int32 :=
  let v_6 := rdPair f n ta 0 23
  if v_6.1 = (-1) then
    ((-1), v_6.2, v_6.1, mi, ss)
  else
    if (rDigit f n v_6.2) = (-1) then
      (1, v_6.2, v_6.1, mi, ss)
    else
      let v_42 := rdPair f n v_6.2 0 59
      if v_42.1 = (-1) then
        ((-1), v_42.2, v_6.1, v_42.1, ss)
      else
        if (rDigit f n v_42.2) = (-1) then
          (2, v_42.2, v_6.1, v_42.1, ss)
        else
          let v_78 := rdPair f n v_42.2 0 59
          if v_78.1 = (-1) then
            ((-1), v_78.2, v_6.1, v_42.1, v_78.1)
          else
            (3, v_78.2, v_6.1, v_42.1, v_78.1)
set_option maxHeartbeats 4000000 in
set_option maxRecDepth 100000 in
theorem c_Rd_readUnits (l : Launch) (dC : Nat → ClassId) (dI : Nat → Nat → Nat) (st sz : Nat) (h : Nat) (ar : Nat) (ab : Nat) (cB : ClassId) (f : Nat → Int32) (n : Nat) (ta : Int32) (ah : Int32) (hm : Nat) (y : Int32) (mo : Int32) (d : Int32) (hh : Int32) (mi : Int32) (ss : Int32) (hp : Nat) (k : Nat) (hn : n ≤ 242) : Met l yX3_readUnits wsX3_readUnits ({ frames := 3, cells := 0, slots := 0, locals := 69 }) (kc_Pc (dC, dI) kcl st sz [.ref h, .ref ar, .ref hm] [(h, .inr (3, [.int ta, .int ah])), (ar, .inr (0, [.ref ab, .int (nI n)])), (ab, .inl (cB, 242, .inl f)), (hm, .inr (2, [.int y, .int mo, .int d, .int hh, .int mi, .int ss, .ref hp, .int (nI k)]))] [(cB, .byte)]) (kc_Qi (dC, dI) kcl (rdUnits f n ta hh mi ss).1 [(h, .inr (3, [.int (rdUnits f n ta hh mi ss).2.1, .int ah])), (ar, .inr (0, [.ref ab, .int (nI n)])), (ab, .inl (cB, 242, .inl f)), (hm, .inr (2, [.int y, .int mo, .int d, .int (rdUnits f n ta hh mi ss).2.2.1, .int (rdUnits f n ta hh mi ss).2.2.2.1, .int (rdUnits f n ta hh mi ss).2.2.2.2, .ref hp, .int (nI k)]))] (va_A [(h, .inr (3, [.int ta, .int ah])), (ar, .inr (0, [.ref ab, .int (nI n)])), (ab, .inl (cB, 242, .inl f)), (hm, .inr (2, [.int y, .int mo, .int d, .int hh, .int mi, .int ss, .ref hp, .int (nI k)]))] sz)) 0 0 (va_A [(h, .inr (3, [.int ta, .int ah])), (ar, .inr (0, [.ref ab, .int (nI n)])), (ab, .inl (cB, 242, .inl f)), (hm, .inr (2, [.int y, .int mo, .int d, .int hh, .int mi, .int ss, .ref hp, .int (nI k)]))] sz) := by
  refine kc_ofW (Qc := fun A => (kc_Qi (dC, dI) kcl (rdUnits f n ta hh mi ss).1 [(h, .inr (3, [.int (rdUnits f n ta hh mi ss).2.1, .int ah])), (ar, .inr (0, [.ref ab, .int (nI n)])), (ab, .inl (cB, 242, .inl f)), (hm, .inr (2, [.int y, .int mo, .int d, .int (rdUnits f n ta hh mi ss).2.2.1, .int (rdUnits f n ta hh mi ss).2.2.2.1, .int (rdUnits f n ta hh mi ss).2.2.2.2, .ref hp, .int (nI k)]))] A)) (cc := cX3_readUnits) (maxL := 3) (ret := (some .int)) (by decide) rfl (Nat.le_of_ble_eq_true rfl) ?_
  intro p e s m below meth c A ls Cx hA hG hK hP hD hS hl
  obtain ⟨hx, hb, hr, hml, hown, hts, hlocks, hnm⟩ := id Cx
  have hl : lv_has ls 3 [(0, .ref h), (1, .ref ar), (2, .ref hm)] := hl
  refine lv_aload_n hx hb dX3_readUnits_0 rfl (lv_at hl 2 rfl) ?_
  refine lv_aload_n hx hb dX3_readUnits_1 rfl (lv_at hl 0 rfl) ?_
  refine lv_aload_n hx hb dX3_readUnits_2 rfl (lv_at hl 1 rfl) ?_
  refine lv_iconst (v := 0) hx hb dX3_readUnits_3 (by decide) ?_
  refine lv_bipush (v := 23) hx hb dX3_readUnits_4 (by decide) ?_
  have hPc := hP.sub (ws' := [(h, .inr (3, [.int ta, .int ah])), (ar, .inr (0, [.ref ab, .int (nI n)])), (ab, .inl (cB, 242, .inl f))]) [0, 1, 2] rfl
  have hDc := hD.sub (ws' := [(h, .inr (3, [.int ta, .int ah])), (ar, .inr (0, [.ref ab, .int (nI n)])), (ab, .inl (cB, 242, .inl f))]) [0, 1, 2] (by decide) rfl
  have hKc := hK.sub (tys' := [(cB, .byte)]) [0] rfl
  have hFc := va_free (wc := [(h, .inr (3, [.int ta, .int ah])), (ar, .inr (0, [.ref ab, .int (nI n)])), (ab, .inl (cB, 242, .inl f))]) hD hS hA [0, 1, 2] rfl
  refine kc_calli (val := (rdPair f n ta 0 23).1) (wr := [(hm, .inr (2, [.int y, .int mo, .int d, .int hh, .int mi, .int ss, .ref hp, .int (nI k)]))]) (w1 := [(h, .inr (3, [.int (rdPair f n ta 0 23).2, .int ah])), (ar, .inr (0, [.ref ab, .int (nI n)])), (ab, .inl (cB, 242, .inl f))]) (va_runV (As := [.ref ar, .int 0, .int 23]) (rest := [.ref hm]) ⟨hx, hb, hml, hown, hts⟩ (c_Rd_readPair l dC dI st s.heap.size h ar ab cB f n ta ah 0 23 hn) (cwV 3 hts (kwV kwm_49 kwm_50 kwm_51 kwm_52 kwm_48) rfl rfl rfl (by decide +kernel) ⟨Nat.le_of_ble_eq_true rfl, Nat.le_of_ble_eq_true rfl⟩) ⟨kc_blind, va_recv hKc hPc (ci := 3) (q0 := 0) rfl rfl, kc_pre hG hS hFc hKc hPc hDc⟩ rfl rfl hl.1 rfl (lv_room (Nat.le_of_ble_eq_true rfl)) dX3_readUnits_6 ⟨Nat.le_of_ble_eq_true rfl, Nat.le_of_ble_eq_true rfl⟩) hP hD hS hFc [0, 1, 2] [3] rfl rfl (by decide) (by decide) (fun H locs hP hD hS => ?_)
  have hP : va_P (dC, dI) kcl [(hm, .inr (2, [.int y, .int mo, .int d, .int hh, .int mi, .int ss, .ref hp, .int (nI k)])), (h, .inr (3, [.int (rdPair f n ta 0 23).2, .int ah])), (ar, .inr (0, [.ref ab, .int (nI n)])), (ab, .inl (cB, 242, .inl f))] H := hP
  have hD : va_D A [(hm, .inr (2, [.int y, .int mo, .int d, .int hh, .int mi, .int ss, .ref hp, .int (nI k)])), (h, .inr (3, [.int (rdPair f n ta 0 23).2, .int ah])), (ar, .inr (0, [.ref ab, .int (nI n)])), (ab, .inl (cB, 242, .inl f))] := hD
  generalize e_6 : rdPair f n ta 0 23 = v_6 at hP hD ⊢
  have hP : va_P (dC, dI) kcl [(hm, .inr (2, [.int y, .int mo, .int d, .int hh, .int mi, .int ss, .ref hp, .int (nI k)])), (h, .inr (3, [.int v_6.2, .int ah])), (ar, .inr (0, [.ref ab, .int (nI n)])), (ab, .inl (cB, 242, .inl f))] H := hP
  have hD : va_D A [(hm, .inr (2, [.int y, .int mo, .int d, .int hh, .int mi, .int ss, .ref hp, .int (nI k)])), (h, .inr (3, [.int v_6.2, .int ah])), (ar, .inr (0, [.ref ab, .int (nI n)])), (ab, .inl (cB, 242, .inl f))] := hD
  refine va_putN (D := (dC, dI)) (ci := 2) (v := .int v_6.1) (ty := .int) (C := RX2) (T := TX2) (N := 8) hx hb hts kin_2 tyX2 tyX2_ok nmX2 hown hK hP hD hS 0 rfl rfl 3 (by decide) (kg_use hG (List.mem_of_getElem? (i := 10) (a := Cond.fieldLinkNest RX3 82 "ClockTexts$Moment" "hour" "I" "ClockTexts") rfl)) (fun _ h9 => h9) rfl (by decide +kernel) rfl rfl (Nat.le_of_ble_eq_true rfl) dX3_readUnits_9 (fun H locs hP hD hS => ?_)
  have hP : va_P (dC, dI) kcl [(hm, .inr (2, [.int y, .int mo, .int d, .int v_6.1, .int mi, .int ss, .ref hp, .int (nI k)])), (h, .inr (3, [.int v_6.2, .int ah])), (ar, .inr (0, [.ref ab, .int (nI n)])), (ab, .inl (cB, 242, .inl f))] H := hP
  have hD : va_D A [(hm, .inr (2, [.int y, .int mo, .int d, .int v_6.1, .int mi, .int ss, .ref hp, .int (nI k)])), (h, .inr (3, [.int v_6.2, .int ah])), (ar, .inr (0, [.ref ab, .int (nI n)])), (ab, .inl (cB, 242, .inl f))] := hD
  refine lv_aload_n hx hb dX3_readUnits_12 rfl (lv_at hl 2 rfl) ?_
  refine va_getN (D := (dC, dI)) (ci := 2) (v := .int v_6.1) (C := RX2) (T := TX2) (N := 8) hx hb hts kin_2 hown hK hP 0 rfl rfl 3 (by decide) (kg_use hG (List.mem_of_getElem? (i := 10) (a := Cond.fieldLinkNest RX3 82 "ClockTexts$Moment" "hour" "I" "ClockTexts") rfl)) (fun _ h9 => h9) rfl dX3_readUnits_13 ?_
  refine lv_iconst (v := (-1)) hx hb dX3_readUnits_16 (by decide) ?_
  refine lv_icmp_ne (tgt := 22) hx hb dX3_readUnits_17 (by decide) (fun c_17 => ?_) (fun c_17 => ?_)
  · refine lv_aload_n hx hb dX3_readUnits_22 rfl (lv_at hl 1 rfl) ?_
    refine lv_aload_n hx hb dX3_readUnits_23 rfl (lv_at hl 0 rfl) ?_
    refine va_get (D := (dC, dI)) (ci := 3) (v := .int v_6.2) (C := RX3) (T := TX3) (N := 2) hx hb hts kin_3 hown hK hP 1 rfl rfl 0 (by decide) (hts _ (kcm kwm_61)) (fun _ h9 => h9) rfl dX3_readUnits_24 ?_
    have hPc := hP.sub (ws' := [(ar, .inr (0, [.ref ab, .int (nI n)])), (ab, .inl (cB, 242, .inl f))]) [2, 3] rfl
    have hDc := hD.sub (ws' := [(ar, .inr (0, [.ref ab, .int (nI n)])), (ab, .inl (cB, 242, .inl f))]) [2, 3] (by decide) rfl
    have hKc := hK.sub (tys' := [(cB, .byte)]) [0] rfl
    have hFc := va_free (wc := [(ar, .inr (0, [.ref ab, .int (nI n)])), (ab, .inl (cB, 242, .inl f))]) hD hS hA [2, 3] rfl
    refine kc_callSi (val := rDigit f n v_6.2) (va_runV (As := [.int v_6.2]) (rest := []) ⟨hx, hb, hml, hown, hts⟩ (c_Row_digitAt l dC dI st H.size ar ab cB f n v_6.2 hn) (cwV 1 hts (kwV kwm_45 kwm_46 kwm_47 kwm_4 kwm_44) rfl rfl rfl (by decide +kernel) ⟨Nat.le_of_ble_eq_true rfl, Nat.le_of_ble_eq_true rfl⟩) ⟨kc_blind, va_recv hKc hPc (ci := 0) (q0 := 0) rfl rfl, kc_pre hG hS hFc hKc hPc hDc⟩ rfl rfl hl.1 rfl (lv_room (Nat.le_of_ble_eq_true rfl)) dX3_readUnits_27 ⟨Nat.le_of_ble_eq_true rfl, Nat.le_of_ble_eq_true rfl⟩) ?_
    refine lv_iconst (v := (-1)) hx hb dX3_readUnits_30 (by decide) ?_
    refine lv_icmp_ne (tgt := 36) hx hb dX3_readUnits_31 (by decide) (fun c_31 => ?_) (fun c_31 => ?_)
    · refine lv_aload_n hx hb dX3_readUnits_36 rfl (lv_at hl 2 rfl) ?_
      refine lv_aload_n hx hb dX3_readUnits_37 rfl (lv_at hl 0 rfl) ?_
      refine lv_aload_n hx hb dX3_readUnits_38 rfl (lv_at hl 1 rfl) ?_
      refine lv_iconst (v := 0) hx hb dX3_readUnits_39 (by decide) ?_
      refine lv_bipush (v := 59) hx hb dX3_readUnits_40 (by decide) ?_
      have hPc := hP.sub (ws' := [(h, .inr (3, [.int v_6.2, .int ah])), (ar, .inr (0, [.ref ab, .int (nI n)])), (ab, .inl (cB, 242, .inl f))]) [1, 2, 3] rfl
      have hDc := hD.sub (ws' := [(h, .inr (3, [.int v_6.2, .int ah])), (ar, .inr (0, [.ref ab, .int (nI n)])), (ab, .inl (cB, 242, .inl f))]) [1, 2, 3] (by decide) rfl
      have hKc := hK.sub (tys' := [(cB, .byte)]) [0] rfl
      have hFc := va_free (wc := [(h, .inr (3, [.int v_6.2, .int ah])), (ar, .inr (0, [.ref ab, .int (nI n)])), (ab, .inl (cB, 242, .inl f))]) hD hS hA [1, 2, 3] rfl
      refine kc_calli (val := (rdPair f n v_6.2 0 59).1) (wr := [(hm, .inr (2, [.int y, .int mo, .int d, .int v_6.1, .int mi, .int ss, .ref hp, .int (nI k)]))]) (w1 := [(h, .inr (3, [.int (rdPair f n v_6.2 0 59).2, .int ah])), (ar, .inr (0, [.ref ab, .int (nI n)])), (ab, .inl (cB, 242, .inl f))]) (va_runV (As := [.ref ar, .int 0, .int 59]) (rest := [.ref hm]) ⟨hx, hb, hml, hown, hts⟩ (c_Rd_readPair l dC dI st H.size h ar ab cB f n v_6.2 ah 0 59 hn) (cwV 3 hts (kwV kwm_49 kwm_50 kwm_51 kwm_52 kwm_48) rfl rfl rfl (by decide +kernel) ⟨Nat.le_of_ble_eq_true rfl, Nat.le_of_ble_eq_true rfl⟩) ⟨kc_blind, va_recv hKc hPc (ci := 3) (q0 := 0) rfl rfl, kc_pre hG hS hFc hKc hPc hDc⟩ rfl rfl hl.1 rfl (lv_room (Nat.le_of_ble_eq_true rfl)) dX3_readUnits_42 ⟨Nat.le_of_ble_eq_true rfl, Nat.le_of_ble_eq_true rfl⟩) hP hD hS hFc [1, 2, 3] [0] rfl rfl (by decide) (by decide) (fun H locs hP hD hS => ?_)
      have hP : va_P (dC, dI) kcl [(hm, .inr (2, [.int y, .int mo, .int d, .int v_6.1, .int mi, .int ss, .ref hp, .int (nI k)])), (h, .inr (3, [.int (rdPair f n v_6.2 0 59).2, .int ah])), (ar, .inr (0, [.ref ab, .int (nI n)])), (ab, .inl (cB, 242, .inl f))] H := hP
      have hD : va_D A [(hm, .inr (2, [.int y, .int mo, .int d, .int v_6.1, .int mi, .int ss, .ref hp, .int (nI k)])), (h, .inr (3, [.int (rdPair f n v_6.2 0 59).2, .int ah])), (ar, .inr (0, [.ref ab, .int (nI n)])), (ab, .inl (cB, 242, .inl f))] := hD
      generalize e_42 : rdPair f n v_6.2 0 59 = v_42 at hP hD ⊢
      have hP : va_P (dC, dI) kcl [(hm, .inr (2, [.int y, .int mo, .int d, .int v_6.1, .int mi, .int ss, .ref hp, .int (nI k)])), (h, .inr (3, [.int v_42.2, .int ah])), (ar, .inr (0, [.ref ab, .int (nI n)])), (ab, .inl (cB, 242, .inl f))] H := hP
      have hD : va_D A [(hm, .inr (2, [.int y, .int mo, .int d, .int v_6.1, .int mi, .int ss, .ref hp, .int (nI k)])), (h, .inr (3, [.int v_42.2, .int ah])), (ar, .inr (0, [.ref ab, .int (nI n)])), (ab, .inl (cB, 242, .inl f))] := hD
      refine va_putN (D := (dC, dI)) (ci := 2) (v := .int v_42.1) (ty := .int) (C := RX2) (T := TX2) (N := 8) hx hb hts kin_2 tyX2 tyX2_ok nmX2 hown hK hP hD hS 0 rfl rfl 4 (by decide) (kg_use hG (List.mem_of_getElem? (i := 11) (a := Cond.fieldLinkNest RX3 88 "ClockTexts$Moment" "minute" "I" "ClockTexts") rfl)) (fun _ h9 => h9) rfl (by decide +kernel) rfl rfl (Nat.le_of_ble_eq_true rfl) dX3_readUnits_45 (fun H locs hP hD hS => ?_)
      have hP : va_P (dC, dI) kcl [(hm, .inr (2, [.int y, .int mo, .int d, .int v_6.1, .int v_42.1, .int ss, .ref hp, .int (nI k)])), (h, .inr (3, [.int v_42.2, .int ah])), (ar, .inr (0, [.ref ab, .int (nI n)])), (ab, .inl (cB, 242, .inl f))] H := hP
      have hD : va_D A [(hm, .inr (2, [.int y, .int mo, .int d, .int v_6.1, .int v_42.1, .int ss, .ref hp, .int (nI k)])), (h, .inr (3, [.int v_42.2, .int ah])), (ar, .inr (0, [.ref ab, .int (nI n)])), (ab, .inl (cB, 242, .inl f))] := hD
      refine lv_aload_n hx hb dX3_readUnits_48 rfl (lv_at hl 2 rfl) ?_
      refine va_getN (D := (dC, dI)) (ci := 2) (v := .int v_42.1) (C := RX2) (T := TX2) (N := 8) hx hb hts kin_2 hown hK hP 0 rfl rfl 4 (by decide) (kg_use hG (List.mem_of_getElem? (i := 11) (a := Cond.fieldLinkNest RX3 88 "ClockTexts$Moment" "minute" "I" "ClockTexts") rfl)) (fun _ h9 => h9) rfl dX3_readUnits_49 ?_
      refine lv_iconst (v := (-1)) hx hb dX3_readUnits_52 (by decide) ?_
      refine lv_icmp_ne (tgt := 58) hx hb dX3_readUnits_53 (by decide) (fun c_53 => ?_) (fun c_53 => ?_)
      · refine lv_aload_n hx hb dX3_readUnits_58 rfl (lv_at hl 1 rfl) ?_
        refine lv_aload_n hx hb dX3_readUnits_59 rfl (lv_at hl 0 rfl) ?_
        refine va_get (D := (dC, dI)) (ci := 3) (v := .int v_42.2) (C := RX3) (T := TX3) (N := 2) hx hb hts kin_3 hown hK hP 1 rfl rfl 0 (by decide) (hts _ (kcm kwm_61)) (fun _ h9 => h9) rfl dX3_readUnits_60 ?_
        have hPc := hP.sub (ws' := [(ar, .inr (0, [.ref ab, .int (nI n)])), (ab, .inl (cB, 242, .inl f))]) [2, 3] rfl
        have hDc := hD.sub (ws' := [(ar, .inr (0, [.ref ab, .int (nI n)])), (ab, .inl (cB, 242, .inl f))]) [2, 3] (by decide) rfl
        have hKc := hK.sub (tys' := [(cB, .byte)]) [0] rfl
        have hFc := va_free (wc := [(ar, .inr (0, [.ref ab, .int (nI n)])), (ab, .inl (cB, 242, .inl f))]) hD hS hA [2, 3] rfl
        refine kc_callSi (val := rDigit f n v_42.2) (va_runV (As := [.int v_42.2]) (rest := []) ⟨hx, hb, hml, hown, hts⟩ (c_Row_digitAt l dC dI st H.size ar ab cB f n v_42.2 hn) (cwV 1 hts (kwV kwm_45 kwm_46 kwm_47 kwm_4 kwm_44) rfl rfl rfl (by decide +kernel) ⟨Nat.le_of_ble_eq_true rfl, Nat.le_of_ble_eq_true rfl⟩) ⟨kc_blind, va_recv hKc hPc (ci := 0) (q0 := 0) rfl rfl, kc_pre hG hS hFc hKc hPc hDc⟩ rfl rfl hl.1 rfl (lv_room (Nat.le_of_ble_eq_true rfl)) dX3_readUnits_63 ⟨Nat.le_of_ble_eq_true rfl, Nat.le_of_ble_eq_true rfl⟩) ?_
        refine lv_iconst (v := (-1)) hx hb dX3_readUnits_66 (by decide) ?_
        refine lv_icmp_ne (tgt := 72) hx hb dX3_readUnits_67 (by decide) (fun c_67 => ?_) (fun c_67 => ?_)
        · refine lv_aload_n hx hb dX3_readUnits_72 rfl (lv_at hl 2 rfl) ?_
          refine lv_aload_n hx hb dX3_readUnits_73 rfl (lv_at hl 0 rfl) ?_
          refine lv_aload_n hx hb dX3_readUnits_74 rfl (lv_at hl 1 rfl) ?_
          refine lv_iconst (v := 0) hx hb dX3_readUnits_75 (by decide) ?_
          refine lv_bipush (v := 59) hx hb dX3_readUnits_76 (by decide) ?_
          have hPc := hP.sub (ws' := [(h, .inr (3, [.int v_42.2, .int ah])), (ar, .inr (0, [.ref ab, .int (nI n)])), (ab, .inl (cB, 242, .inl f))]) [1, 2, 3] rfl
          have hDc := hD.sub (ws' := [(h, .inr (3, [.int v_42.2, .int ah])), (ar, .inr (0, [.ref ab, .int (nI n)])), (ab, .inl (cB, 242, .inl f))]) [1, 2, 3] (by decide) rfl
          have hKc := hK.sub (tys' := [(cB, .byte)]) [0] rfl
          have hFc := va_free (wc := [(h, .inr (3, [.int v_42.2, .int ah])), (ar, .inr (0, [.ref ab, .int (nI n)])), (ab, .inl (cB, 242, .inl f))]) hD hS hA [1, 2, 3] rfl
          refine kc_calli (val := (rdPair f n v_42.2 0 59).1) (wr := [(hm, .inr (2, [.int y, .int mo, .int d, .int v_6.1, .int v_42.1, .int ss, .ref hp, .int (nI k)]))]) (w1 := [(h, .inr (3, [.int (rdPair f n v_42.2 0 59).2, .int ah])), (ar, .inr (0, [.ref ab, .int (nI n)])), (ab, .inl (cB, 242, .inl f))]) (va_runV (As := [.ref ar, .int 0, .int 59]) (rest := [.ref hm]) ⟨hx, hb, hml, hown, hts⟩ (c_Rd_readPair l dC dI st H.size h ar ab cB f n v_42.2 ah 0 59 hn) (cwV 3 hts (kwV kwm_49 kwm_50 kwm_51 kwm_52 kwm_48) rfl rfl rfl (by decide +kernel) ⟨Nat.le_of_ble_eq_true rfl, Nat.le_of_ble_eq_true rfl⟩) ⟨kc_blind, va_recv hKc hPc (ci := 3) (q0 := 0) rfl rfl, kc_pre hG hS hFc hKc hPc hDc⟩ rfl rfl hl.1 rfl (lv_room (Nat.le_of_ble_eq_true rfl)) dX3_readUnits_78 ⟨Nat.le_of_ble_eq_true rfl, Nat.le_of_ble_eq_true rfl⟩) hP hD hS hFc [1, 2, 3] [0] rfl rfl (by decide) (by decide) (fun H locs hP hD hS => ?_)
          have hP : va_P (dC, dI) kcl [(hm, .inr (2, [.int y, .int mo, .int d, .int v_6.1, .int v_42.1, .int ss, .ref hp, .int (nI k)])), (h, .inr (3, [.int (rdPair f n v_42.2 0 59).2, .int ah])), (ar, .inr (0, [.ref ab, .int (nI n)])), (ab, .inl (cB, 242, .inl f))] H := hP
          have hD : va_D A [(hm, .inr (2, [.int y, .int mo, .int d, .int v_6.1, .int v_42.1, .int ss, .ref hp, .int (nI k)])), (h, .inr (3, [.int (rdPair f n v_42.2 0 59).2, .int ah])), (ar, .inr (0, [.ref ab, .int (nI n)])), (ab, .inl (cB, 242, .inl f))] := hD
          generalize e_78 : rdPair f n v_42.2 0 59 = v_78 at hP hD ⊢
          have hP : va_P (dC, dI) kcl [(hm, .inr (2, [.int y, .int mo, .int d, .int v_6.1, .int v_42.1, .int ss, .ref hp, .int (nI k)])), (h, .inr (3, [.int v_78.2, .int ah])), (ar, .inr (0, [.ref ab, .int (nI n)])), (ab, .inl (cB, 242, .inl f))] H := hP
          have hD : va_D A [(hm, .inr (2, [.int y, .int mo, .int d, .int v_6.1, .int v_42.1, .int ss, .ref hp, .int (nI k)])), (h, .inr (3, [.int v_78.2, .int ah])), (ar, .inr (0, [.ref ab, .int (nI n)])), (ab, .inl (cB, 242, .inl f))] := hD
          refine va_putN (D := (dC, dI)) (ci := 2) (v := .int v_78.1) (ty := .int) (C := RX2) (T := TX2) (N := 8) hx hb hts kin_2 tyX2 tyX2_ok nmX2 hown hK hP hD hS 0 rfl rfl 5 (by decide) (kg_use hG (List.mem_of_getElem? (i := 12) (a := Cond.fieldLinkNest RX3 91 "ClockTexts$Moment" "second" "I" "ClockTexts") rfl)) (fun _ h9 => h9) rfl (by decide +kernel) rfl rfl (Nat.le_of_ble_eq_true rfl) dX3_readUnits_81 (fun H locs hP hD hS => ?_)
          have hP : va_P (dC, dI) kcl [(hm, .inr (2, [.int y, .int mo, .int d, .int v_6.1, .int v_42.1, .int v_78.1, .ref hp, .int (nI k)])), (h, .inr (3, [.int v_78.2, .int ah])), (ar, .inr (0, [.ref ab, .int (nI n)])), (ab, .inl (cB, 242, .inl f))] H := hP
          have hD : va_D A [(hm, .inr (2, [.int y, .int mo, .int d, .int v_6.1, .int v_42.1, .int v_78.1, .ref hp, .int (nI k)])), (h, .inr (3, [.int v_78.2, .int ah])), (ar, .inr (0, [.ref ab, .int (nI n)])), (ab, .inl (cB, 242, .inl f))] := hD
          refine lv_aload_n hx hb dX3_readUnits_84 rfl (lv_at hl 2 rfl) ?_
          refine va_getN (D := (dC, dI)) (ci := 2) (v := .int v_78.1) (C := RX2) (T := TX2) (N := 8) hx hb hts kin_2 hown hK hP 0 rfl rfl 5 (by decide) (kg_use hG (List.mem_of_getElem? (i := 12) (a := Cond.fieldLinkNest RX3 91 "ClockTexts$Moment" "second" "I" "ClockTexts") rfl)) (fun _ h9 => h9) rfl dX3_readUnits_85 ?_
          refine lv_iconst (v := (-1)) hx hb dX3_readUnits_88 (by decide) ?_
          refine lv_icmp_ne (tgt := 96) hx hb dX3_readUnits_89 (by decide) (fun c_89 => ?_) (fun c_89 => ?_)
          · refine lv_iconst (v := 3) hx hb dX3_readUnits_96 (by decide) ?_
            have hF9 : rdUnits f n ta hh mi ss = (3, v_78.2, v_6.1, v_42.1, v_78.1) := by
              subst e_78
              subst e_42
              subst e_6
              first | (simp only [rdUnits, if_neg c_17, if_neg c_31, if_neg c_53, if_neg c_67, if_neg c_89]; done) | rfl
            have hP9 : va_P (dC, dI) kcl [(h, .inr (3, [.int (rdUnits f n ta hh mi ss).2.1, .int ah])), (ar, .inr (0, [.ref ab, .int (nI n)])), (ab, .inl (cB, 242, .inl f)), (hm, .inr (2, [.int y, .int mo, .int d, .int (rdUnits f n ta hh mi ss).2.2.1, .int (rdUnits f n ta hh mi ss).2.2.2.1, .int (rdUnits f n ta hh mi ss).2.2.2.2, .ref hp, .int (nI k)]))] H := by
              try rw [hF9]
              exact hP.sub [1, 2, 3, 0] rfl
            have hD9 : va_D A [(h, .inr (3, [.int (rdUnits f n ta hh mi ss).2.1, .int ah])), (ar, .inr (0, [.ref ab, .int (nI n)])), (ab, .inl (cB, 242, .inl f)), (hm, .inr (2, [.int y, .int mo, .int d, .int (rdUnits f n ta hh mi ss).2.2.1, .int (rdUnits f n ta hh mi ss).2.2.2.1, .int (rdUnits f n ta hh mi ss).2.2.2.2, .ref hp, .int (nI k)]))] := by
              try rw [hF9]
              exact hD.sub [1, 2, 3, 0] (by decide) rfl
            have hv9 : (3 : Int32) = (rdUnits f n ta hh mi ss).1 := by
              try rw [hF9]
              try rfl
            exact kc_iret hx hb hr hlocks hv9 hP9 hD9 hS dX3_readUnits_97
          · refine lv_iconst (v := (-1)) hx hb dX3_readUnits_92 (by decide) ?_
            refine lv_goto (tgt := 97) hx hb dX3_readUnits_93 (by decide) ?_
            have hF9 : rdUnits f n ta hh mi ss = ((-1), v_78.2, v_6.1, v_42.1, v_78.1) := by
              subst e_78
              subst e_42
              subst e_6
              first | (simp only [rdUnits, if_neg c_17, if_neg c_31, if_neg c_53, if_neg c_67, if_pos c_89]; done) | rfl
            have hP9 : va_P (dC, dI) kcl [(h, .inr (3, [.int (rdUnits f n ta hh mi ss).2.1, .int ah])), (ar, .inr (0, [.ref ab, .int (nI n)])), (ab, .inl (cB, 242, .inl f)), (hm, .inr (2, [.int y, .int mo, .int d, .int (rdUnits f n ta hh mi ss).2.2.1, .int (rdUnits f n ta hh mi ss).2.2.2.1, .int (rdUnits f n ta hh mi ss).2.2.2.2, .ref hp, .int (nI k)]))] H := by
              try rw [hF9]
              exact hP.sub [1, 2, 3, 0] rfl
            have hD9 : va_D A [(h, .inr (3, [.int (rdUnits f n ta hh mi ss).2.1, .int ah])), (ar, .inr (0, [.ref ab, .int (nI n)])), (ab, .inl (cB, 242, .inl f)), (hm, .inr (2, [.int y, .int mo, .int d, .int (rdUnits f n ta hh mi ss).2.2.1, .int (rdUnits f n ta hh mi ss).2.2.2.1, .int (rdUnits f n ta hh mi ss).2.2.2.2, .ref hp, .int (nI k)]))] := by
              try rw [hF9]
              exact hD.sub [1, 2, 3, 0] (by decide) rfl
            have hv9 : ((-1) : Int32) = (rdUnits f n ta hh mi ss).1 := by
              try rw [hF9]
              try rfl
            exact kc_iret hx hb hr hlocks hv9 hP9 hD9 hS dX3_readUnits_97
        · refine lv_iconst (v := 2) hx hb dX3_readUnits_70 (by decide) ?_
          have hF9 : rdUnits f n ta hh mi ss = (2, v_42.2, v_6.1, v_42.1, ss) := by
            subst e_42
            subst e_6
            first | (simp only [rdUnits, if_neg c_17, if_neg c_31, if_neg c_53, if_pos c_67]; done) | rfl
          have hP9 : va_P (dC, dI) kcl [(h, .inr (3, [.int (rdUnits f n ta hh mi ss).2.1, .int ah])), (ar, .inr (0, [.ref ab, .int (nI n)])), (ab, .inl (cB, 242, .inl f)), (hm, .inr (2, [.int y, .int mo, .int d, .int (rdUnits f n ta hh mi ss).2.2.1, .int (rdUnits f n ta hh mi ss).2.2.2.1, .int (rdUnits f n ta hh mi ss).2.2.2.2, .ref hp, .int (nI k)]))] H := by
            try rw [hF9]
            exact hP.sub [1, 2, 3, 0] rfl
          have hD9 : va_D A [(h, .inr (3, [.int (rdUnits f n ta hh mi ss).2.1, .int ah])), (ar, .inr (0, [.ref ab, .int (nI n)])), (ab, .inl (cB, 242, .inl f)), (hm, .inr (2, [.int y, .int mo, .int d, .int (rdUnits f n ta hh mi ss).2.2.1, .int (rdUnits f n ta hh mi ss).2.2.2.1, .int (rdUnits f n ta hh mi ss).2.2.2.2, .ref hp, .int (nI k)]))] := by
            try rw [hF9]
            exact hD.sub [1, 2, 3, 0] (by decide) rfl
          have hv9 : (2 : Int32) = (rdUnits f n ta hh mi ss).1 := by
            try rw [hF9]
            try rfl
          exact kc_iret hx hb hr hlocks hv9 hP9 hD9 hS dX3_readUnits_71
      · refine lv_iconst (v := (-1)) hx hb dX3_readUnits_56 (by decide) ?_
        have hF9 : rdUnits f n ta hh mi ss = ((-1), v_42.2, v_6.1, v_42.1, ss) := by
          subst e_42
          subst e_6
          first | (simp only [rdUnits, if_neg c_17, if_neg c_31, if_pos c_53]; done) | rfl
        have hP9 : va_P (dC, dI) kcl [(h, .inr (3, [.int (rdUnits f n ta hh mi ss).2.1, .int ah])), (ar, .inr (0, [.ref ab, .int (nI n)])), (ab, .inl (cB, 242, .inl f)), (hm, .inr (2, [.int y, .int mo, .int d, .int (rdUnits f n ta hh mi ss).2.2.1, .int (rdUnits f n ta hh mi ss).2.2.2.1, .int (rdUnits f n ta hh mi ss).2.2.2.2, .ref hp, .int (nI k)]))] H := by
          try rw [hF9]
          exact hP.sub [1, 2, 3, 0] rfl
        have hD9 : va_D A [(h, .inr (3, [.int (rdUnits f n ta hh mi ss).2.1, .int ah])), (ar, .inr (0, [.ref ab, .int (nI n)])), (ab, .inl (cB, 242, .inl f)), (hm, .inr (2, [.int y, .int mo, .int d, .int (rdUnits f n ta hh mi ss).2.2.1, .int (rdUnits f n ta hh mi ss).2.2.2.1, .int (rdUnits f n ta hh mi ss).2.2.2.2, .ref hp, .int (nI k)]))] := by
          try rw [hF9]
          exact hD.sub [1, 2, 3, 0] (by decide) rfl
        have hv9 : ((-1) : Int32) = (rdUnits f n ta hh mi ss).1 := by
          try rw [hF9]
          try rfl
        exact kc_iret hx hb hr hlocks hv9 hP9 hD9 hS dX3_readUnits_57
    · refine lv_iconst (v := 1) hx hb dX3_readUnits_34 (by decide) ?_
      have hF9 : rdUnits f n ta hh mi ss = (1, v_6.2, v_6.1, mi, ss) := by
        subst e_6
        first | (simp only [rdUnits, if_neg c_17, if_pos c_31]; done) | rfl
      have hP9 : va_P (dC, dI) kcl [(h, .inr (3, [.int (rdUnits f n ta hh mi ss).2.1, .int ah])), (ar, .inr (0, [.ref ab, .int (nI n)])), (ab, .inl (cB, 242, .inl f)), (hm, .inr (2, [.int y, .int mo, .int d, .int (rdUnits f n ta hh mi ss).2.2.1, .int (rdUnits f n ta hh mi ss).2.2.2.1, .int (rdUnits f n ta hh mi ss).2.2.2.2, .ref hp, .int (nI k)]))] H := by
        try rw [hF9]
        exact hP.sub [1, 2, 3, 0] rfl
      have hD9 : va_D A [(h, .inr (3, [.int (rdUnits f n ta hh mi ss).2.1, .int ah])), (ar, .inr (0, [.ref ab, .int (nI n)])), (ab, .inl (cB, 242, .inl f)), (hm, .inr (2, [.int y, .int mo, .int d, .int (rdUnits f n ta hh mi ss).2.2.1, .int (rdUnits f n ta hh mi ss).2.2.2.1, .int (rdUnits f n ta hh mi ss).2.2.2.2, .ref hp, .int (nI k)]))] := by
        try rw [hF9]
        exact hD.sub [1, 2, 3, 0] (by decide) rfl
      have hv9 : (1 : Int32) = (rdUnits f n ta hh mi ss).1 := by
        try rw [hF9]
        try rfl
      exact kc_iret hx hb hr hlocks hv9 hP9 hD9 hS dX3_readUnits_35
  · refine lv_iconst (v := (-1)) hx hb dX3_readUnits_20 (by decide) ?_
    have hF9 : rdUnits f n ta hh mi ss = ((-1), v_6.2, v_6.1, mi, ss) := by
      subst e_6
      first | (simp only [rdUnits, if_pos c_17]; done) | rfl
    have hP9 : va_P (dC, dI) kcl [(h, .inr (3, [.int (rdUnits f n ta hh mi ss).2.1, .int ah])), (ar, .inr (0, [.ref ab, .int (nI n)])), (ab, .inl (cB, 242, .inl f)), (hm, .inr (2, [.int y, .int mo, .int d, .int (rdUnits f n ta hh mi ss).2.2.1, .int (rdUnits f n ta hh mi ss).2.2.2.1, .int (rdUnits f n ta hh mi ss).2.2.2.2, .ref hp, .int (nI k)]))] H := by
      try rw [hF9]
      exact hP.sub [1, 2, 3, 0] rfl
    have hD9 : va_D A [(h, .inr (3, [.int (rdUnits f n ta hh mi ss).2.1, .int ah])), (ar, .inr (0, [.ref ab, .int (nI n)])), (ab, .inl (cB, 242, .inl f)), (hm, .inr (2, [.int y, .int mo, .int d, .int (rdUnits f n ta hh mi ss).2.2.1, .int (rdUnits f n ta hh mi ss).2.2.2.1, .int (rdUnits f n ta hh mi ss).2.2.2.2, .ref hp, .int (nI k)]))] := by
      try rw [hF9]
      exact hD.sub [1, 2, 3, 0] (by decide) rfl
    have hv9 : ((-1) : Int32) = (rdUnits f n ta hh mi ss).1 := by
      try rw [hF9]
      try rfl
    exact kc_iret hx hb hr hlocks hv9 hP9 hD9 hS dX3_readUnits_21
def rdZone (f : Nat → Int32) (n : Nat) (kind ta ah : Int32) : Bool × Int32 × Int32 :=
  if (rByte f n ta) = 90 then
    (true, ta + 1, ah)
  else
    if (rByte f n ta) = 43 then
      let v_46 := rdPair f n (ta + 1) 0 23
      if v_46.1 = (-1) then
        (false, v_46.2, ah)
      else
        if kind = 0 then
          let v_83 := rdPair f n v_46.2 0 59
          if v_83.1 = (-1) then
            (false, v_83.2, ah)
          else
            (true, v_83.2, (v_46.1 * 60) + v_83.1)
        else
          if (rDigit f n v_46.2) = (-1) then
            (true, v_46.2, (v_46.1 * 60) + 0)
          else
            let v_83 := rdPair f n v_46.2 0 59
            if v_83.1 = (-1) then
              (false, v_83.2, ah)
            else
              (true, v_83.2, (v_46.1 * 60) + v_83.1)
    else
      if (rByte f n ta) = 45 then
        let v_46 := rdPair f n (ta + 1) 0 23
        if v_46.1 = (-1) then
          (false, v_46.2, ah)
        else
          if kind = 0 then
            let v_83 := rdPair f n v_46.2 0 59
            if v_83.1 = (-1) then
              (false, v_83.2, ah)
            else
              (true, v_83.2, -((v_46.1 * 60) + v_83.1))
          else
            if (rDigit f n v_46.2) = (-1) then
              (true, v_46.2, -((v_46.1 * 60) + 0))
            else
              let v_83 := rdPair f n v_46.2 0 59
              if v_83.1 = (-1) then
                (false, v_83.2, ah)
              else
                (true, v_83.2, -((v_46.1 * 60) + v_83.1))
      else
        (false, ta + 1, ah)
set_option maxHeartbeats 4000000 in
set_option maxRecDepth 100000 in
theorem c_Rd_readZone (l : Launch) (dC : Nat → ClassId) (dI : Nat → Nat → Nat) (st sz : Nat) (h : Nat) (ar : Nat) (ab : Nat) (cB : ClassId) (f : Nat → Int32) (n : Nat) (ta : Int32) (ah : Int32) (kind : Int32) (hn : n ≤ 242) : Met l yX3_readZone wsX3_readZone ({ frames := 3, cells := 0, slots := 0, locals := 69 }) (kc_Pc (dC, dI) kcl st sz [.ref h, .ref ar, .int kind] [(h, .inr (3, [.int ta, .int ah])), (ar, .inr (0, [.ref ab, .int (nI n)])), (ab, .inl (cB, 242, .inl f))] [(cB, .byte)]) (kc_Qi (dC, dI) kcl (bI (rdZone f n kind ta ah).1) [(h, .inr (3, [.int (rdZone f n kind ta ah).2.1, .int (rdZone f n kind ta ah).2.2])), (ar, .inr (0, [.ref ab, .int (nI n)])), (ab, .inl (cB, 242, .inl f))] (va_A [(h, .inr (3, [.int ta, .int ah])), (ar, .inr (0, [.ref ab, .int (nI n)])), (ab, .inl (cB, 242, .inl f))] sz)) 0 0 (va_A [(h, .inr (3, [.int ta, .int ah])), (ar, .inr (0, [.ref ab, .int (nI n)])), (ab, .inl (cB, 242, .inl f))] sz) := by
  refine kc_ofW (Qc := fun A => (kc_Qi (dC, dI) kcl (bI (rdZone f n kind ta ah).1) [(h, .inr (3, [.int (rdZone f n kind ta ah).2.1, .int (rdZone f n kind ta ah).2.2])), (ar, .inr (0, [.ref ab, .int (nI n)])), (ab, .inl (cB, 242, .inl f))] A)) (cc := cX3_readZone) (maxL := 7) (ret := (some .boolean)) (by decide) rfl (Nat.le_of_ble_eq_true rfl) ?_
  intro p e s m below meth c A ls Cx hA hG hK hP hD hS hl
  obtain ⟨hx, hb, hr, hml, hown, hts, hlocks, hnm⟩ := id Cx
  have hl : lv_has ls 7 [(0, .ref h), (1, .ref ar), (2, .int kind)] := hl
  refine lv_aload_n hx hb dX3_readZone_0 rfl (lv_at hl 1 rfl) ?_
  refine lv_aload_n hx hb dX3_readZone_1 rfl (lv_at hl 0 rfl) ?_
  refine va_get (D := (dC, dI)) (ci := 3) (v := .int ta) (C := RX3) (T := TX3) (N := 2) hx hb hts kin_3 hown hK hP 0 rfl rfl 0 (by decide) (hts _ (kcm kwm_61)) (fun _ h9 => h9) rfl dX3_readZone_2 ?_
  have hPc := hP.sub (ws' := [(ar, .inr (0, [.ref ab, .int (nI n)])), (ab, .inl (cB, 242, .inl f))]) [1, 2] rfl
  have hDc := hD.sub (ws' := [(ar, .inr (0, [.ref ab, .int (nI n)])), (ab, .inl (cB, 242, .inl f))]) [1, 2] (by decide) rfl
  have hKc := hK.sub (tys' := [(cB, .byte)]) [0] rfl
  have hFc := va_free (wc := [(ar, .inr (0, [.ref ab, .int (nI n)])), (ab, .inl (cB, 242, .inl f))]) hD hS hA [1, 2] rfl
  refine kc_callSi (val := rByte f n ta) (va_runV (As := [.int ta]) (rest := []) ⟨hx, hb, hml, hown, hts⟩ (c_Row_byteAt l dC dI st s.heap.size ar ab cB f n ta hn) (cwV 1 hts (kwV kwm_62 kwm_7 kwm_8 kwm_4 kwm_5) rfl rfl rfl (by decide +kernel) ⟨Nat.le_of_ble_eq_true rfl, Nat.le_of_ble_eq_true rfl⟩) ⟨kc_blind, va_recv hKc hPc (ci := 0) (q0 := 0) rfl rfl, kc_pre hG hS hFc hKc hPc hDc⟩ rfl rfl hl.1 rfl (lv_room (Nat.le_of_ble_eq_true rfl)) dX3_readZone_5 ⟨Nat.le_of_ble_eq_true rfl, Nat.le_of_ble_eq_true rfl⟩) ?_
  refine lv_istore_n (lv' := [(3, .int (rByte f n ta)), (0, .ref h), (1, .ref ar), (2, .int kind)]) hx hb dX3_readZone_8 rfl hl (by decide) rfl (fun ls hl => ?_)
  refine lv_aload_n hx hb dX3_readZone_9 rfl (lv_at hl 1 rfl) ?_
  refine lv_dup hx hb dX3_readZone_10 rfl ?_
  refine va_get (D := (dC, dI)) (ci := 3) (v := .int ta) (C := RX3) (T := TX3) (N := 2) hx hb hts kin_3 hown hK hP 0 rfl rfl 0 (by decide) (hts _ (kcm kwm_61)) (fun _ h9 => h9) rfl dX3_readZone_11 ?_
  refine lv_iconst (v := 1) hx hb dX3_readZone_14 (by decide) ?_
  refine lv_iadd hx hb dX3_readZone_15 ?_
  refine va_put (D := (dC, dI)) (ci := 3) (v := .int (ta + 1)) (ty := .int) (C := RX3) (T := TX3) (N := 2) hx hb hts kin_3 tyX3 tyX3_ok nmX3 hown hK hP hD hS 0 rfl rfl 0 (by decide) (hts _ (kcm kwm_61)) (fun _ h9 => h9) rfl (by decide +kernel) rfl rfl (Nat.le_of_ble_eq_true rfl) dX3_readZone_16 (fun H locs hP hD hS => ?_)
  have hP : va_P (dC, dI) kcl [(h, .inr (3, [.int (ta + 1), .int ah])), (ar, .inr (0, [.ref ab, .int (nI n)])), (ab, .inl (cB, 242, .inl f))] H := hP
  have hD : va_D A [(h, .inr (3, [.int (ta + 1), .int ah])), (ar, .inr (0, [.ref ab, .int (nI n)])), (ab, .inl (cB, 242, .inl f))] := hD
  refine lv_iload_n hx hb dX3_readZone_19 rfl (lv_at hl 0 rfl) ?_
  refine lv_bipush (v := 90) hx hb dX3_readZone_20 (by decide) ?_
  refine lv_icmp_ne (tgt := 27) hx hb dX3_readZone_22 (by decide) (fun c_22 => ?_) (fun c_22 => ?_)
  · refine lv_iload_n hx hb dX3_readZone_27 rfl (lv_at hl 0 rfl) ?_
    refine lv_bipush (v := 43) hx hb dX3_readZone_28 (by decide) ?_
    refine lv_icmp_eq (tgt := 41) hx hb dX3_readZone_30 (by decide) (fun c_30 => ?_) (fun c_30 => ?_)
    · refine lv_aload_n hx hb dX3_readZone_41 rfl (lv_at hl 1 rfl) ?_
      refine lv_aload_n hx hb dX3_readZone_42 rfl (lv_at hl 2 rfl) ?_
      refine lv_iconst (v := 0) hx hb dX3_readZone_43 (by decide) ?_
      refine lv_bipush (v := 23) hx hb dX3_readZone_44 (by decide) ?_
      have hPc := hP.sub (ws' := [(h, .inr (3, [.int (ta + 1), .int ah])), (ar, .inr (0, [.ref ab, .int (nI n)])), (ab, .inl (cB, 242, .inl f))]) [0, 1, 2] rfl
      have hDc := hD.sub (ws' := [(h, .inr (3, [.int (ta + 1), .int ah])), (ar, .inr (0, [.ref ab, .int (nI n)])), (ab, .inl (cB, 242, .inl f))]) [0, 1, 2] (by decide) rfl
      have hKc := hK.sub (tys' := [(cB, .byte)]) [0] rfl
      have hFc := va_free (wc := [(h, .inr (3, [.int (ta + 1), .int ah])), (ar, .inr (0, [.ref ab, .int (nI n)])), (ab, .inl (cB, 242, .inl f))]) hD hS hA [0, 1, 2] rfl
      refine kc_calli (val := (rdPair f n (ta + 1) 0 23).1) (wr := []) (w1 := [(h, .inr (3, [.int (rdPair f n (ta + 1) 0 23).2, .int ah])), (ar, .inr (0, [.ref ab, .int (nI n)])), (ab, .inl (cB, 242, .inl f))]) (va_runV (As := [.ref ar, .int 0, .int 23]) (rest := []) ⟨hx, hb, hml, hown, hts⟩ (c_Rd_readPair l dC dI st H.size h ar ab cB f n (ta + 1) ah 0 23 hn) (cwV 3 hts (kwV kwm_49 kwm_50 kwm_51 kwm_52 kwm_48) rfl rfl rfl (by decide +kernel) ⟨Nat.le_of_ble_eq_true rfl, Nat.le_of_ble_eq_true rfl⟩) ⟨kc_blind, va_recv hKc hPc (ci := 3) (q0 := 0) rfl rfl, kc_pre hG hS hFc hKc hPc hDc⟩ rfl rfl hl.1 rfl (lv_room (Nat.le_of_ble_eq_true rfl)) dX3_readZone_46 ⟨Nat.le_of_ble_eq_true rfl, Nat.le_of_ble_eq_true rfl⟩) hP hD hS hFc [0, 1, 2] [] rfl rfl (by decide) (by decide) (fun H locs hP hD hS => ?_)
      have hP : va_P (dC, dI) kcl [(h, .inr (3, [.int (rdPair f n (ta + 1) 0 23).2, .int ah])), (ar, .inr (0, [.ref ab, .int (nI n)])), (ab, .inl (cB, 242, .inl f))] H := hP
      have hD : va_D A [(h, .inr (3, [.int (rdPair f n (ta + 1) 0 23).2, .int ah])), (ar, .inr (0, [.ref ab, .int (nI n)])), (ab, .inl (cB, 242, .inl f))] := hD
      generalize e_46 : rdPair f n (ta + 1) 0 23 = v_46 at hP hD ⊢
      have hP : va_P (dC, dI) kcl [(h, .inr (3, [.int v_46.2, .int ah])), (ar, .inr (0, [.ref ab, .int (nI n)])), (ab, .inl (cB, 242, .inl f))] H := hP
      have hD : va_D A [(h, .inr (3, [.int v_46.2, .int ah])), (ar, .inr (0, [.ref ab, .int (nI n)])), (ab, .inl (cB, 242, .inl f))] := hD
      refine lv_istore (lv' := [(4, .int v_46.1), (3, .int (rByte f n ta)), (0, .ref h), (1, .ref ar), (2, .int kind)]) hx hb dX3_readZone_49 hl (by decide) rfl (fun ls hl => ?_)
      refine lv_iload hx hb dX3_readZone_51 (lv_at hl 0 rfl) ?_
      refine lv_iconst (v := (-1)) hx hb dX3_readZone_53 (by decide) ?_
      refine lv_icmp_ne (tgt := 59) hx hb dX3_readZone_54 (by decide) (fun c_54 => ?_) (fun c_54 => ?_)
      · refine lv_iconst (v := 0) hx hb dX3_readZone_59 (by decide) ?_
        refine lv_istore (lv' := [(5, .int 0), (4, .int v_46.1), (3, .int (rByte f n ta)), (0, .ref h), (1, .ref ar), (2, .int kind)]) hx hb dX3_readZone_60 hl (by decide) rfl (fun ls hl => ?_)
        refine lv_iload_n hx hb dX3_readZone_62 rfl (lv_at hl 5 rfl) ?_
        refine lv_if_eq (tgt := 78) hx hb dX3_readZone_63 (by decide) (fun c_63 => ?_) (fun c_63 => ?_)
        · refine lv_aload_n hx hb dX3_readZone_78 rfl (lv_at hl 3 rfl) ?_
          refine lv_aload_n hx hb dX3_readZone_79 rfl (lv_at hl 4 rfl) ?_
          refine lv_iconst (v := 0) hx hb dX3_readZone_80 (by decide) ?_
          refine lv_bipush (v := 59) hx hb dX3_readZone_81 (by decide) ?_
          have hPc := hP.sub (ws' := [(h, .inr (3, [.int v_46.2, .int ah])), (ar, .inr (0, [.ref ab, .int (nI n)])), (ab, .inl (cB, 242, .inl f))]) [0, 1, 2] rfl
          have hDc := hD.sub (ws' := [(h, .inr (3, [.int v_46.2, .int ah])), (ar, .inr (0, [.ref ab, .int (nI n)])), (ab, .inl (cB, 242, .inl f))]) [0, 1, 2] (by decide) rfl
          have hKc := hK.sub (tys' := [(cB, .byte)]) [0] rfl
          have hFc := va_free (wc := [(h, .inr (3, [.int v_46.2, .int ah])), (ar, .inr (0, [.ref ab, .int (nI n)])), (ab, .inl (cB, 242, .inl f))]) hD hS hA [0, 1, 2] rfl
          refine kc_calli (val := (rdPair f n v_46.2 0 59).1) (wr := []) (w1 := [(h, .inr (3, [.int (rdPair f n v_46.2 0 59).2, .int ah])), (ar, .inr (0, [.ref ab, .int (nI n)])), (ab, .inl (cB, 242, .inl f))]) (va_runV (As := [.ref ar, .int 0, .int 59]) (rest := []) ⟨hx, hb, hml, hown, hts⟩ (c_Rd_readPair l dC dI st H.size h ar ab cB f n v_46.2 ah 0 59 hn) (cwV 3 hts (kwV kwm_49 kwm_50 kwm_51 kwm_52 kwm_48) rfl rfl rfl (by decide +kernel) ⟨Nat.le_of_ble_eq_true rfl, Nat.le_of_ble_eq_true rfl⟩) ⟨kc_blind, va_recv hKc hPc (ci := 3) (q0 := 0) rfl rfl, kc_pre hG hS hFc hKc hPc hDc⟩ rfl rfl hl.1 rfl (lv_room (Nat.le_of_ble_eq_true rfl)) dX3_readZone_83 ⟨Nat.le_of_ble_eq_true rfl, Nat.le_of_ble_eq_true rfl⟩) hP hD hS hFc [0, 1, 2] [] rfl rfl (by decide) (by decide) (fun H locs hP hD hS => ?_)
          have hP : va_P (dC, dI) kcl [(h, .inr (3, [.int (rdPair f n v_46.2 0 59).2, .int ah])), (ar, .inr (0, [.ref ab, .int (nI n)])), (ab, .inl (cB, 242, .inl f))] H := hP
          have hD : va_D A [(h, .inr (3, [.int (rdPair f n v_46.2 0 59).2, .int ah])), (ar, .inr (0, [.ref ab, .int (nI n)])), (ab, .inl (cB, 242, .inl f))] := hD
          generalize e_83 : rdPair f n v_46.2 0 59 = v_83 at hP hD ⊢
          have hP : va_P (dC, dI) kcl [(h, .inr (3, [.int v_83.2, .int ah])), (ar, .inr (0, [.ref ab, .int (nI n)])), (ab, .inl (cB, 242, .inl f))] H := hP
          have hD : va_D A [(h, .inr (3, [.int v_83.2, .int ah])), (ar, .inr (0, [.ref ab, .int (nI n)])), (ab, .inl (cB, 242, .inl f))] := hD
          refine lv_istore (lv' := [(5, .int v_83.1), (4, .int v_46.1), (3, .int (rByte f n ta)), (0, .ref h), (1, .ref ar), (2, .int kind)]) hx hb dX3_readZone_86 hl (by decide) rfl (fun ls hl => ?_)
          refine lv_iload hx hb dX3_readZone_88 (lv_at hl 0 rfl) ?_
          refine lv_iconst (v := (-1)) hx hb dX3_readZone_90 (by decide) ?_
          refine lv_icmp_ne (tgt := 96) hx hb dX3_readZone_91 (by decide) (fun c_91 => ?_) (fun c_91 => ?_)
          · refine lv_iload hx hb dX3_readZone_96 (lv_at hl 1 rfl) ?_
            refine lv_bipush (v := 60) hx hb dX3_readZone_98 (by decide) ?_
            refine lv_imul hx hb dX3_readZone_100 ?_
            refine lv_iload hx hb dX3_readZone_101 (lv_at hl 0 rfl) ?_
            refine lv_iadd hx hb dX3_readZone_103 ?_
            refine lv_istore (lv' := [(6, .int ((v_46.1 * 60) + v_83.1)), (5, .int v_83.1), (4, .int v_46.1), (3, .int (rByte f n ta)), (0, .ref h), (1, .ref ar), (2, .int kind)]) hx hb dX3_readZone_104 hl (by decide) rfl (fun ls hl => ?_)
            refine lv_aload_n hx hb dX3_readZone_106 rfl (lv_at hl 4 rfl) ?_
            refine lv_iload_n hx hb dX3_readZone_107 rfl (lv_at hl 3 rfl) ?_
            refine lv_bipush (v := 43) hx hb dX3_readZone_108 (by decide) ?_
            refine lv_icmp_ne (tgt := 118) hx hb dX3_readZone_110 (by decide) (fun c_110 => ?_) (fun c_110 => ?_)
            · exact absurd c_30 c_110
            · refine lv_iload hx hb dX3_readZone_113 (lv_at hl 0 rfl) ?_
              refine lv_goto (tgt := 121) hx hb dX3_readZone_115 (by decide) ?_
              refine va_put (D := (dC, dI)) (ci := 3) (v := .int ((v_46.1 * 60) + v_83.1)) (ty := .int) (C := RX3) (T := TX3) (N := 2) hx hb hts kin_3 tyX3 tyX3_ok nmX3 hown hK hP hD hS 0 rfl rfl 1 (by decide) (hts _ (kcm kwm_63)) (fun _ h9 => h9) rfl (by decide +kernel) rfl rfl (Nat.le_of_ble_eq_true rfl) dX3_readZone_121 (fun H locs hP hD hS => ?_)
              have hP : va_P (dC, dI) kcl [(h, .inr (3, [.int v_83.2, .int ((v_46.1 * 60) + v_83.1)])), (ar, .inr (0, [.ref ab, .int (nI n)])), (ab, .inl (cB, 242, .inl f))] H := hP
              have hD : va_D A [(h, .inr (3, [.int v_83.2, .int ((v_46.1 * 60) + v_83.1)])), (ar, .inr (0, [.ref ab, .int (nI n)])), (ab, .inl (cB, 242, .inl f))] := hD
              refine lv_iconst (v := 1) hx hb dX3_readZone_124 (by decide) ?_
              have hF9 : rdZone f n kind ta ah = (true, v_83.2, (v_46.1 * 60) + v_83.1) := by
                subst e_83
                subst e_46
                first | (simp only [rdZone, if_neg c_22, if_pos c_30, if_neg c_54, if_pos c_63, if_neg c_91]; done) | rfl
              have hP9 : va_P (dC, dI) kcl [(h, .inr (3, [.int (rdZone f n kind ta ah).2.1, .int (rdZone f n kind ta ah).2.2])), (ar, .inr (0, [.ref ab, .int (nI n)])), (ab, .inl (cB, 242, .inl f))] H := by
                try rw [hF9]
                exact hP.sub [0, 1, 2] rfl
              have hD9 : va_D A [(h, .inr (3, [.int (rdZone f n kind ta ah).2.1, .int (rdZone f n kind ta ah).2.2])), (ar, .inr (0, [.ref ab, .int (nI n)])), (ab, .inl (cB, 242, .inl f))] := by
                try rw [hF9]
                exact hD.sub [0, 1, 2] (by decide) rfl
              have hv9 : (1 : Int32) = bI (rdZone f n kind ta ah).1 := by
                try rw [hF9]
                try rfl
              exact kc_zret hx hb hr hlocks hv9 (bI_nar hv9) hP9 hD9 hS dX3_readZone_125
          · refine lv_iconst (v := 0) hx hb dX3_readZone_94 (by decide) ?_
            have hF9 : rdZone f n kind ta ah = (false, v_83.2, ah) := by
              subst e_83
              subst e_46
              first | (simp only [rdZone, if_neg c_22, if_pos c_30, if_neg c_54, if_pos c_63, if_pos c_91]; done) | rfl
            have hP9 : va_P (dC, dI) kcl [(h, .inr (3, [.int (rdZone f n kind ta ah).2.1, .int (rdZone f n kind ta ah).2.2])), (ar, .inr (0, [.ref ab, .int (nI n)])), (ab, .inl (cB, 242, .inl f))] H := by
              try rw [hF9]
              exact hP.sub [0, 1, 2] rfl
            have hD9 : va_D A [(h, .inr (3, [.int (rdZone f n kind ta ah).2.1, .int (rdZone f n kind ta ah).2.2])), (ar, .inr (0, [.ref ab, .int (nI n)])), (ab, .inl (cB, 242, .inl f))] := by
              try rw [hF9]
              exact hD.sub [0, 1, 2] (by decide) rfl
            have hv9 : (0 : Int32) = bI (rdZone f n kind ta ah).1 := by
              try rw [hF9]
              try rfl
            exact kc_zret hx hb hr hlocks hv9 (bI_nar hv9) hP9 hD9 hS dX3_readZone_95
        · refine lv_aload_n hx hb dX3_readZone_66 rfl (lv_at hl 4 rfl) ?_
          refine lv_aload_n hx hb dX3_readZone_67 rfl (lv_at hl 3 rfl) ?_
          refine va_get (D := (dC, dI)) (ci := 3) (v := .int v_46.2) (C := RX3) (T := TX3) (N := 2) hx hb hts kin_3 hown hK hP 0 rfl rfl 0 (by decide) (hts _ (kcm kwm_61)) (fun _ h9 => h9) rfl dX3_readZone_68 ?_
          have hPc := hP.sub (ws' := [(ar, .inr (0, [.ref ab, .int (nI n)])), (ab, .inl (cB, 242, .inl f))]) [1, 2] rfl
          have hDc := hD.sub (ws' := [(ar, .inr (0, [.ref ab, .int (nI n)])), (ab, .inl (cB, 242, .inl f))]) [1, 2] (by decide) rfl
          have hKc := hK.sub (tys' := [(cB, .byte)]) [0] rfl
          have hFc := va_free (wc := [(ar, .inr (0, [.ref ab, .int (nI n)])), (ab, .inl (cB, 242, .inl f))]) hD hS hA [1, 2] rfl
          refine kc_callSi (val := rDigit f n v_46.2) (va_runV (As := [.int v_46.2]) (rest := []) ⟨hx, hb, hml, hown, hts⟩ (c_Row_digitAt l dC dI st H.size ar ab cB f n v_46.2 hn) (cwV 1 hts (kwV kwm_45 kwm_46 kwm_47 kwm_4 kwm_44) rfl rfl rfl (by decide +kernel) ⟨Nat.le_of_ble_eq_true rfl, Nat.le_of_ble_eq_true rfl⟩) ⟨kc_blind, va_recv hKc hPc (ci := 0) (q0 := 0) rfl rfl, kc_pre hG hS hFc hKc hPc hDc⟩ rfl rfl hl.1 rfl (lv_room (Nat.le_of_ble_eq_true rfl)) dX3_readZone_71 ⟨Nat.le_of_ble_eq_true rfl, Nat.le_of_ble_eq_true rfl⟩) ?_
          refine lv_iconst (v := (-1)) hx hb dX3_readZone_74 (by decide) ?_
          refine lv_icmp_eq (tgt := 88) hx hb dX3_readZone_75 (by decide) (fun c_75 => ?_) (fun c_75 => ?_)
          · refine lv_iload hx hb dX3_readZone_88 (lv_at hl 0 rfl) ?_
            refine lv_iconst (v := (-1)) hx hb dX3_readZone_90 (by decide) ?_
            refine lv_icmp_ne (tgt := 96) hx hb dX3_readZone_91 (by decide) (fun c_91 => ?_) (fun c_91 => ?_)
            · refine lv_iload hx hb dX3_readZone_96 (lv_at hl 1 rfl) ?_
              refine lv_bipush (v := 60) hx hb dX3_readZone_98 (by decide) ?_
              refine lv_imul hx hb dX3_readZone_100 ?_
              refine lv_iload hx hb dX3_readZone_101 (lv_at hl 0 rfl) ?_
              refine lv_iadd hx hb dX3_readZone_103 ?_
              refine lv_istore (lv' := [(6, .int ((v_46.1 * 60) + 0)), (5, .int 0), (4, .int v_46.1), (3, .int (rByte f n ta)), (0, .ref h), (1, .ref ar), (2, .int kind)]) hx hb dX3_readZone_104 hl (by decide) rfl (fun ls hl => ?_)
              refine lv_aload_n hx hb dX3_readZone_106 rfl (lv_at hl 4 rfl) ?_
              refine lv_iload_n hx hb dX3_readZone_107 rfl (lv_at hl 3 rfl) ?_
              refine lv_bipush (v := 43) hx hb dX3_readZone_108 (by decide) ?_
              refine lv_icmp_ne (tgt := 118) hx hb dX3_readZone_110 (by decide) (fun c_110 => ?_) (fun c_110 => ?_)
              · exact absurd c_30 c_110
              · refine lv_iload hx hb dX3_readZone_113 (lv_at hl 0 rfl) ?_
                refine lv_goto (tgt := 121) hx hb dX3_readZone_115 (by decide) ?_
                refine va_put (D := (dC, dI)) (ci := 3) (v := .int ((v_46.1 * 60) + 0)) (ty := .int) (C := RX3) (T := TX3) (N := 2) hx hb hts kin_3 tyX3 tyX3_ok nmX3 hown hK hP hD hS 0 rfl rfl 1 (by decide) (hts _ (kcm kwm_63)) (fun _ h9 => h9) rfl (by decide +kernel) rfl rfl (Nat.le_of_ble_eq_true rfl) dX3_readZone_121 (fun H locs hP hD hS => ?_)
                have hP : va_P (dC, dI) kcl [(h, .inr (3, [.int v_46.2, .int ((v_46.1 * 60) + 0)])), (ar, .inr (0, [.ref ab, .int (nI n)])), (ab, .inl (cB, 242, .inl f))] H := hP
                have hD : va_D A [(h, .inr (3, [.int v_46.2, .int ((v_46.1 * 60) + 0)])), (ar, .inr (0, [.ref ab, .int (nI n)])), (ab, .inl (cB, 242, .inl f))] := hD
                refine lv_iconst (v := 1) hx hb dX3_readZone_124 (by decide) ?_
                have hF9 : rdZone f n kind ta ah = (true, v_46.2, (v_46.1 * 60) + 0) := by
                  subst e_46
                  first | (simp only [rdZone, if_neg c_22, if_pos c_30, if_neg c_54, if_neg c_63, if_pos c_75]; done) | rfl
                have hP9 : va_P (dC, dI) kcl [(h, .inr (3, [.int (rdZone f n kind ta ah).2.1, .int (rdZone f n kind ta ah).2.2])), (ar, .inr (0, [.ref ab, .int (nI n)])), (ab, .inl (cB, 242, .inl f))] H := by
                  try rw [hF9]
                  exact hP.sub [0, 1, 2] rfl
                have hD9 : va_D A [(h, .inr (3, [.int (rdZone f n kind ta ah).2.1, .int (rdZone f n kind ta ah).2.2])), (ar, .inr (0, [.ref ab, .int (nI n)])), (ab, .inl (cB, 242, .inl f))] := by
                  try rw [hF9]
                  exact hD.sub [0, 1, 2] (by decide) rfl
                have hv9 : (1 : Int32) = bI (rdZone f n kind ta ah).1 := by
                  try rw [hF9]
                  try rfl
                exact kc_zret hx hb hr hlocks hv9 (bI_nar hv9) hP9 hD9 hS dX3_readZone_125
            · exact absurd c_91 (by decide)
          · refine lv_aload_n hx hb dX3_readZone_78 rfl (lv_at hl 3 rfl) ?_
            refine lv_aload_n hx hb dX3_readZone_79 rfl (lv_at hl 4 rfl) ?_
            refine lv_iconst (v := 0) hx hb dX3_readZone_80 (by decide) ?_
            refine lv_bipush (v := 59) hx hb dX3_readZone_81 (by decide) ?_
            have hPc := hP.sub (ws' := [(h, .inr (3, [.int v_46.2, .int ah])), (ar, .inr (0, [.ref ab, .int (nI n)])), (ab, .inl (cB, 242, .inl f))]) [0, 1, 2] rfl
            have hDc := hD.sub (ws' := [(h, .inr (3, [.int v_46.2, .int ah])), (ar, .inr (0, [.ref ab, .int (nI n)])), (ab, .inl (cB, 242, .inl f))]) [0, 1, 2] (by decide) rfl
            have hKc := hK.sub (tys' := [(cB, .byte)]) [0] rfl
            have hFc := va_free (wc := [(h, .inr (3, [.int v_46.2, .int ah])), (ar, .inr (0, [.ref ab, .int (nI n)])), (ab, .inl (cB, 242, .inl f))]) hD hS hA [0, 1, 2] rfl
            refine kc_calli (val := (rdPair f n v_46.2 0 59).1) (wr := []) (w1 := [(h, .inr (3, [.int (rdPair f n v_46.2 0 59).2, .int ah])), (ar, .inr (0, [.ref ab, .int (nI n)])), (ab, .inl (cB, 242, .inl f))]) (va_runV (As := [.ref ar, .int 0, .int 59]) (rest := []) ⟨hx, hb, hml, hown, hts⟩ (c_Rd_readPair l dC dI st H.size h ar ab cB f n v_46.2 ah 0 59 hn) (cwV 3 hts (kwV kwm_49 kwm_50 kwm_51 kwm_52 kwm_48) rfl rfl rfl (by decide +kernel) ⟨Nat.le_of_ble_eq_true rfl, Nat.le_of_ble_eq_true rfl⟩) ⟨kc_blind, va_recv hKc hPc (ci := 3) (q0 := 0) rfl rfl, kc_pre hG hS hFc hKc hPc hDc⟩ rfl rfl hl.1 rfl (lv_room (Nat.le_of_ble_eq_true rfl)) dX3_readZone_83 ⟨Nat.le_of_ble_eq_true rfl, Nat.le_of_ble_eq_true rfl⟩) hP hD hS hFc [0, 1, 2] [] rfl rfl (by decide) (by decide) (fun H locs hP hD hS => ?_)
            have hP : va_P (dC, dI) kcl [(h, .inr (3, [.int (rdPair f n v_46.2 0 59).2, .int ah])), (ar, .inr (0, [.ref ab, .int (nI n)])), (ab, .inl (cB, 242, .inl f))] H := hP
            have hD : va_D A [(h, .inr (3, [.int (rdPair f n v_46.2 0 59).2, .int ah])), (ar, .inr (0, [.ref ab, .int (nI n)])), (ab, .inl (cB, 242, .inl f))] := hD
            generalize e_83 : rdPair f n v_46.2 0 59 = v_83 at hP hD ⊢
            have hP : va_P (dC, dI) kcl [(h, .inr (3, [.int v_83.2, .int ah])), (ar, .inr (0, [.ref ab, .int (nI n)])), (ab, .inl (cB, 242, .inl f))] H := hP
            have hD : va_D A [(h, .inr (3, [.int v_83.2, .int ah])), (ar, .inr (0, [.ref ab, .int (nI n)])), (ab, .inl (cB, 242, .inl f))] := hD
            refine lv_istore (lv' := [(5, .int v_83.1), (4, .int v_46.1), (3, .int (rByte f n ta)), (0, .ref h), (1, .ref ar), (2, .int kind)]) hx hb dX3_readZone_86 hl (by decide) rfl (fun ls hl => ?_)
            refine lv_iload hx hb dX3_readZone_88 (lv_at hl 0 rfl) ?_
            refine lv_iconst (v := (-1)) hx hb dX3_readZone_90 (by decide) ?_
            refine lv_icmp_ne (tgt := 96) hx hb dX3_readZone_91 (by decide) (fun c_91 => ?_) (fun c_91 => ?_)
            · refine lv_iload hx hb dX3_readZone_96 (lv_at hl 1 rfl) ?_
              refine lv_bipush (v := 60) hx hb dX3_readZone_98 (by decide) ?_
              refine lv_imul hx hb dX3_readZone_100 ?_
              refine lv_iload hx hb dX3_readZone_101 (lv_at hl 0 rfl) ?_
              refine lv_iadd hx hb dX3_readZone_103 ?_
              refine lv_istore (lv' := [(6, .int ((v_46.1 * 60) + v_83.1)), (5, .int v_83.1), (4, .int v_46.1), (3, .int (rByte f n ta)), (0, .ref h), (1, .ref ar), (2, .int kind)]) hx hb dX3_readZone_104 hl (by decide) rfl (fun ls hl => ?_)
              refine lv_aload_n hx hb dX3_readZone_106 rfl (lv_at hl 4 rfl) ?_
              refine lv_iload_n hx hb dX3_readZone_107 rfl (lv_at hl 3 rfl) ?_
              refine lv_bipush (v := 43) hx hb dX3_readZone_108 (by decide) ?_
              refine lv_icmp_ne (tgt := 118) hx hb dX3_readZone_110 (by decide) (fun c_110 => ?_) (fun c_110 => ?_)
              · exact absurd c_30 c_110
              · refine lv_iload hx hb dX3_readZone_113 (lv_at hl 0 rfl) ?_
                refine lv_goto (tgt := 121) hx hb dX3_readZone_115 (by decide) ?_
                refine va_put (D := (dC, dI)) (ci := 3) (v := .int ((v_46.1 * 60) + v_83.1)) (ty := .int) (C := RX3) (T := TX3) (N := 2) hx hb hts kin_3 tyX3 tyX3_ok nmX3 hown hK hP hD hS 0 rfl rfl 1 (by decide) (hts _ (kcm kwm_63)) (fun _ h9 => h9) rfl (by decide +kernel) rfl rfl (Nat.le_of_ble_eq_true rfl) dX3_readZone_121 (fun H locs hP hD hS => ?_)
                have hP : va_P (dC, dI) kcl [(h, .inr (3, [.int v_83.2, .int ((v_46.1 * 60) + v_83.1)])), (ar, .inr (0, [.ref ab, .int (nI n)])), (ab, .inl (cB, 242, .inl f))] H := hP
                have hD : va_D A [(h, .inr (3, [.int v_83.2, .int ((v_46.1 * 60) + v_83.1)])), (ar, .inr (0, [.ref ab, .int (nI n)])), (ab, .inl (cB, 242, .inl f))] := hD
                refine lv_iconst (v := 1) hx hb dX3_readZone_124 (by decide) ?_
                have hF9 : rdZone f n kind ta ah = (true, v_83.2, (v_46.1 * 60) + v_83.1) := by
                  subst e_83
                  subst e_46
                  first | (simp only [rdZone, if_neg c_22, if_pos c_30, if_neg c_54, if_neg c_63, if_neg c_75, if_neg c_91]; done) | rfl
                have hP9 : va_P (dC, dI) kcl [(h, .inr (3, [.int (rdZone f n kind ta ah).2.1, .int (rdZone f n kind ta ah).2.2])), (ar, .inr (0, [.ref ab, .int (nI n)])), (ab, .inl (cB, 242, .inl f))] H := by
                  try rw [hF9]
                  exact hP.sub [0, 1, 2] rfl
                have hD9 : va_D A [(h, .inr (3, [.int (rdZone f n kind ta ah).2.1, .int (rdZone f n kind ta ah).2.2])), (ar, .inr (0, [.ref ab, .int (nI n)])), (ab, .inl (cB, 242, .inl f))] := by
                  try rw [hF9]
                  exact hD.sub [0, 1, 2] (by decide) rfl
                have hv9 : (1 : Int32) = bI (rdZone f n kind ta ah).1 := by
                  try rw [hF9]
                  try rfl
                exact kc_zret hx hb hr hlocks hv9 (bI_nar hv9) hP9 hD9 hS dX3_readZone_125
            · refine lv_iconst (v := 0) hx hb dX3_readZone_94 (by decide) ?_
              have hF9 : rdZone f n kind ta ah = (false, v_83.2, ah) := by
                subst e_83
                subst e_46
                first | (simp only [rdZone, if_neg c_22, if_pos c_30, if_neg c_54, if_neg c_63, if_neg c_75, if_pos c_91]; done) | rfl
              have hP9 : va_P (dC, dI) kcl [(h, .inr (3, [.int (rdZone f n kind ta ah).2.1, .int (rdZone f n kind ta ah).2.2])), (ar, .inr (0, [.ref ab, .int (nI n)])), (ab, .inl (cB, 242, .inl f))] H := by
                try rw [hF9]
                exact hP.sub [0, 1, 2] rfl
              have hD9 : va_D A [(h, .inr (3, [.int (rdZone f n kind ta ah).2.1, .int (rdZone f n kind ta ah).2.2])), (ar, .inr (0, [.ref ab, .int (nI n)])), (ab, .inl (cB, 242, .inl f))] := by
                try rw [hF9]
                exact hD.sub [0, 1, 2] (by decide) rfl
              have hv9 : (0 : Int32) = bI (rdZone f n kind ta ah).1 := by
                try rw [hF9]
                try rfl
              exact kc_zret hx hb hr hlocks hv9 (bI_nar hv9) hP9 hD9 hS dX3_readZone_95
      · refine lv_iconst (v := 0) hx hb dX3_readZone_57 (by decide) ?_
        have hF9 : rdZone f n kind ta ah = (false, v_46.2, ah) := by
          subst e_46
          first | (simp only [rdZone, if_neg c_22, if_pos c_30, if_pos c_54]; done) | rfl
        have hP9 : va_P (dC, dI) kcl [(h, .inr (3, [.int (rdZone f n kind ta ah).2.1, .int (rdZone f n kind ta ah).2.2])), (ar, .inr (0, [.ref ab, .int (nI n)])), (ab, .inl (cB, 242, .inl f))] H := by
          try rw [hF9]
          exact hP.sub [0, 1, 2] rfl
        have hD9 : va_D A [(h, .inr (3, [.int (rdZone f n kind ta ah).2.1, .int (rdZone f n kind ta ah).2.2])), (ar, .inr (0, [.ref ab, .int (nI n)])), (ab, .inl (cB, 242, .inl f))] := by
          try rw [hF9]
          exact hD.sub [0, 1, 2] (by decide) rfl
        have hv9 : (0 : Int32) = bI (rdZone f n kind ta ah).1 := by
          try rw [hF9]
          try rfl
        exact kc_zret hx hb hr hlocks hv9 (bI_nar hv9) hP9 hD9 hS dX3_readZone_58
    · refine lv_iload_n hx hb dX3_readZone_33 rfl (lv_at hl 0 rfl) ?_
      refine lv_bipush (v := 45) hx hb dX3_readZone_34 (by decide) ?_
      refine lv_icmp_eq (tgt := 41) hx hb dX3_readZone_36 (by decide) (fun c_36 => ?_) (fun c_36 => ?_)
      · refine lv_aload_n hx hb dX3_readZone_41 rfl (lv_at hl 1 rfl) ?_
        refine lv_aload_n hx hb dX3_readZone_42 rfl (lv_at hl 2 rfl) ?_
        refine lv_iconst (v := 0) hx hb dX3_readZone_43 (by decide) ?_
        refine lv_bipush (v := 23) hx hb dX3_readZone_44 (by decide) ?_
        have hPc := hP.sub (ws' := [(h, .inr (3, [.int (ta + 1), .int ah])), (ar, .inr (0, [.ref ab, .int (nI n)])), (ab, .inl (cB, 242, .inl f))]) [0, 1, 2] rfl
        have hDc := hD.sub (ws' := [(h, .inr (3, [.int (ta + 1), .int ah])), (ar, .inr (0, [.ref ab, .int (nI n)])), (ab, .inl (cB, 242, .inl f))]) [0, 1, 2] (by decide) rfl
        have hKc := hK.sub (tys' := [(cB, .byte)]) [0] rfl
        have hFc := va_free (wc := [(h, .inr (3, [.int (ta + 1), .int ah])), (ar, .inr (0, [.ref ab, .int (nI n)])), (ab, .inl (cB, 242, .inl f))]) hD hS hA [0, 1, 2] rfl
        refine kc_calli (val := (rdPair f n (ta + 1) 0 23).1) (wr := []) (w1 := [(h, .inr (3, [.int (rdPair f n (ta + 1) 0 23).2, .int ah])), (ar, .inr (0, [.ref ab, .int (nI n)])), (ab, .inl (cB, 242, .inl f))]) (va_runV (As := [.ref ar, .int 0, .int 23]) (rest := []) ⟨hx, hb, hml, hown, hts⟩ (c_Rd_readPair l dC dI st H.size h ar ab cB f n (ta + 1) ah 0 23 hn) (cwV 3 hts (kwV kwm_49 kwm_50 kwm_51 kwm_52 kwm_48) rfl rfl rfl (by decide +kernel) ⟨Nat.le_of_ble_eq_true rfl, Nat.le_of_ble_eq_true rfl⟩) ⟨kc_blind, va_recv hKc hPc (ci := 3) (q0 := 0) rfl rfl, kc_pre hG hS hFc hKc hPc hDc⟩ rfl rfl hl.1 rfl (lv_room (Nat.le_of_ble_eq_true rfl)) dX3_readZone_46 ⟨Nat.le_of_ble_eq_true rfl, Nat.le_of_ble_eq_true rfl⟩) hP hD hS hFc [0, 1, 2] [] rfl rfl (by decide) (by decide) (fun H locs hP hD hS => ?_)
        have hP : va_P (dC, dI) kcl [(h, .inr (3, [.int (rdPair f n (ta + 1) 0 23).2, .int ah])), (ar, .inr (0, [.ref ab, .int (nI n)])), (ab, .inl (cB, 242, .inl f))] H := hP
        have hD : va_D A [(h, .inr (3, [.int (rdPair f n (ta + 1) 0 23).2, .int ah])), (ar, .inr (0, [.ref ab, .int (nI n)])), (ab, .inl (cB, 242, .inl f))] := hD
        generalize e_46 : rdPair f n (ta + 1) 0 23 = v_46 at hP hD ⊢
        have hP : va_P (dC, dI) kcl [(h, .inr (3, [.int v_46.2, .int ah])), (ar, .inr (0, [.ref ab, .int (nI n)])), (ab, .inl (cB, 242, .inl f))] H := hP
        have hD : va_D A [(h, .inr (3, [.int v_46.2, .int ah])), (ar, .inr (0, [.ref ab, .int (nI n)])), (ab, .inl (cB, 242, .inl f))] := hD
        refine lv_istore (lv' := [(4, .int v_46.1), (3, .int (rByte f n ta)), (0, .ref h), (1, .ref ar), (2, .int kind)]) hx hb dX3_readZone_49 hl (by decide) rfl (fun ls hl => ?_)
        refine lv_iload hx hb dX3_readZone_51 (lv_at hl 0 rfl) ?_
        refine lv_iconst (v := (-1)) hx hb dX3_readZone_53 (by decide) ?_
        refine lv_icmp_ne (tgt := 59) hx hb dX3_readZone_54 (by decide) (fun c_54 => ?_) (fun c_54 => ?_)
        · refine lv_iconst (v := 0) hx hb dX3_readZone_59 (by decide) ?_
          refine lv_istore (lv' := [(5, .int 0), (4, .int v_46.1), (3, .int (rByte f n ta)), (0, .ref h), (1, .ref ar), (2, .int kind)]) hx hb dX3_readZone_60 hl (by decide) rfl (fun ls hl => ?_)
          refine lv_iload_n hx hb dX3_readZone_62 rfl (lv_at hl 5 rfl) ?_
          refine lv_if_eq (tgt := 78) hx hb dX3_readZone_63 (by decide) (fun c_63 => ?_) (fun c_63 => ?_)
          · refine lv_aload_n hx hb dX3_readZone_78 rfl (lv_at hl 3 rfl) ?_
            refine lv_aload_n hx hb dX3_readZone_79 rfl (lv_at hl 4 rfl) ?_
            refine lv_iconst (v := 0) hx hb dX3_readZone_80 (by decide) ?_
            refine lv_bipush (v := 59) hx hb dX3_readZone_81 (by decide) ?_
            have hPc := hP.sub (ws' := [(h, .inr (3, [.int v_46.2, .int ah])), (ar, .inr (0, [.ref ab, .int (nI n)])), (ab, .inl (cB, 242, .inl f))]) [0, 1, 2] rfl
            have hDc := hD.sub (ws' := [(h, .inr (3, [.int v_46.2, .int ah])), (ar, .inr (0, [.ref ab, .int (nI n)])), (ab, .inl (cB, 242, .inl f))]) [0, 1, 2] (by decide) rfl
            have hKc := hK.sub (tys' := [(cB, .byte)]) [0] rfl
            have hFc := va_free (wc := [(h, .inr (3, [.int v_46.2, .int ah])), (ar, .inr (0, [.ref ab, .int (nI n)])), (ab, .inl (cB, 242, .inl f))]) hD hS hA [0, 1, 2] rfl
            refine kc_calli (val := (rdPair f n v_46.2 0 59).1) (wr := []) (w1 := [(h, .inr (3, [.int (rdPair f n v_46.2 0 59).2, .int ah])), (ar, .inr (0, [.ref ab, .int (nI n)])), (ab, .inl (cB, 242, .inl f))]) (va_runV (As := [.ref ar, .int 0, .int 59]) (rest := []) ⟨hx, hb, hml, hown, hts⟩ (c_Rd_readPair l dC dI st H.size h ar ab cB f n v_46.2 ah 0 59 hn) (cwV 3 hts (kwV kwm_49 kwm_50 kwm_51 kwm_52 kwm_48) rfl rfl rfl (by decide +kernel) ⟨Nat.le_of_ble_eq_true rfl, Nat.le_of_ble_eq_true rfl⟩) ⟨kc_blind, va_recv hKc hPc (ci := 3) (q0 := 0) rfl rfl, kc_pre hG hS hFc hKc hPc hDc⟩ rfl rfl hl.1 rfl (lv_room (Nat.le_of_ble_eq_true rfl)) dX3_readZone_83 ⟨Nat.le_of_ble_eq_true rfl, Nat.le_of_ble_eq_true rfl⟩) hP hD hS hFc [0, 1, 2] [] rfl rfl (by decide) (by decide) (fun H locs hP hD hS => ?_)
            have hP : va_P (dC, dI) kcl [(h, .inr (3, [.int (rdPair f n v_46.2 0 59).2, .int ah])), (ar, .inr (0, [.ref ab, .int (nI n)])), (ab, .inl (cB, 242, .inl f))] H := hP
            have hD : va_D A [(h, .inr (3, [.int (rdPair f n v_46.2 0 59).2, .int ah])), (ar, .inr (0, [.ref ab, .int (nI n)])), (ab, .inl (cB, 242, .inl f))] := hD
            generalize e_83 : rdPair f n v_46.2 0 59 = v_83 at hP hD ⊢
            have hP : va_P (dC, dI) kcl [(h, .inr (3, [.int v_83.2, .int ah])), (ar, .inr (0, [.ref ab, .int (nI n)])), (ab, .inl (cB, 242, .inl f))] H := hP
            have hD : va_D A [(h, .inr (3, [.int v_83.2, .int ah])), (ar, .inr (0, [.ref ab, .int (nI n)])), (ab, .inl (cB, 242, .inl f))] := hD
            refine lv_istore (lv' := [(5, .int v_83.1), (4, .int v_46.1), (3, .int (rByte f n ta)), (0, .ref h), (1, .ref ar), (2, .int kind)]) hx hb dX3_readZone_86 hl (by decide) rfl (fun ls hl => ?_)
            refine lv_iload hx hb dX3_readZone_88 (lv_at hl 0 rfl) ?_
            refine lv_iconst (v := (-1)) hx hb dX3_readZone_90 (by decide) ?_
            refine lv_icmp_ne (tgt := 96) hx hb dX3_readZone_91 (by decide) (fun c_91 => ?_) (fun c_91 => ?_)
            · refine lv_iload hx hb dX3_readZone_96 (lv_at hl 1 rfl) ?_
              refine lv_bipush (v := 60) hx hb dX3_readZone_98 (by decide) ?_
              refine lv_imul hx hb dX3_readZone_100 ?_
              refine lv_iload hx hb dX3_readZone_101 (lv_at hl 0 rfl) ?_
              refine lv_iadd hx hb dX3_readZone_103 ?_
              refine lv_istore (lv' := [(6, .int ((v_46.1 * 60) + v_83.1)), (5, .int v_83.1), (4, .int v_46.1), (3, .int (rByte f n ta)), (0, .ref h), (1, .ref ar), (2, .int kind)]) hx hb dX3_readZone_104 hl (by decide) rfl (fun ls hl => ?_)
              refine lv_aload_n hx hb dX3_readZone_106 rfl (lv_at hl 4 rfl) ?_
              refine lv_iload_n hx hb dX3_readZone_107 rfl (lv_at hl 3 rfl) ?_
              refine lv_bipush (v := 43) hx hb dX3_readZone_108 (by decide) ?_
              refine lv_icmp_ne (tgt := 118) hx hb dX3_readZone_110 (by decide) (fun c_110 => ?_) (fun c_110 => ?_)
              · refine lv_iload hx hb dX3_readZone_118 (lv_at hl 0 rfl) ?_
                refine lv_ineg hx hb dX3_readZone_120 ?_
                refine va_put (D := (dC, dI)) (ci := 3) (v := .int (-((v_46.1 * 60) + v_83.1))) (ty := .int) (C := RX3) (T := TX3) (N := 2) hx hb hts kin_3 tyX3 tyX3_ok nmX3 hown hK hP hD hS 0 rfl rfl 1 (by decide) (hts _ (kcm kwm_63)) (fun _ h9 => h9) rfl (by decide +kernel) rfl rfl (Nat.le_of_ble_eq_true rfl) dX3_readZone_121 (fun H locs hP hD hS => ?_)
                have hP : va_P (dC, dI) kcl [(h, .inr (3, [.int v_83.2, .int (-((v_46.1 * 60) + v_83.1))])), (ar, .inr (0, [.ref ab, .int (nI n)])), (ab, .inl (cB, 242, .inl f))] H := hP
                have hD : va_D A [(h, .inr (3, [.int v_83.2, .int (-((v_46.1 * 60) + v_83.1))])), (ar, .inr (0, [.ref ab, .int (nI n)])), (ab, .inl (cB, 242, .inl f))] := hD
                refine lv_iconst (v := 1) hx hb dX3_readZone_124 (by decide) ?_
                have hF9 : rdZone f n kind ta ah = (true, v_83.2, -((v_46.1 * 60) + v_83.1)) := by
                  subst e_83
                  subst e_46
                  first | (simp only [rdZone, if_neg c_22, if_neg c_30, if_pos c_36, if_neg c_54, if_pos c_63, if_neg c_91]; done) | rfl
                have hP9 : va_P (dC, dI) kcl [(h, .inr (3, [.int (rdZone f n kind ta ah).2.1, .int (rdZone f n kind ta ah).2.2])), (ar, .inr (0, [.ref ab, .int (nI n)])), (ab, .inl (cB, 242, .inl f))] H := by
                  try rw [hF9]
                  exact hP.sub [0, 1, 2] rfl
                have hD9 : va_D A [(h, .inr (3, [.int (rdZone f n kind ta ah).2.1, .int (rdZone f n kind ta ah).2.2])), (ar, .inr (0, [.ref ab, .int (nI n)])), (ab, .inl (cB, 242, .inl f))] := by
                  try rw [hF9]
                  exact hD.sub [0, 1, 2] (by decide) rfl
                have hv9 : (1 : Int32) = bI (rdZone f n kind ta ah).1 := by
                  try rw [hF9]
                  try rfl
                exact kc_zret hx hb hr hlocks hv9 (bI_nar hv9) hP9 hD9 hS dX3_readZone_125
              · exact absurd c_110 c_30
            · refine lv_iconst (v := 0) hx hb dX3_readZone_94 (by decide) ?_
              have hF9 : rdZone f n kind ta ah = (false, v_83.2, ah) := by
                subst e_83
                subst e_46
                first | (simp only [rdZone, if_neg c_22, if_neg c_30, if_pos c_36, if_neg c_54, if_pos c_63, if_pos c_91]; done) | rfl
              have hP9 : va_P (dC, dI) kcl [(h, .inr (3, [.int (rdZone f n kind ta ah).2.1, .int (rdZone f n kind ta ah).2.2])), (ar, .inr (0, [.ref ab, .int (nI n)])), (ab, .inl (cB, 242, .inl f))] H := by
                try rw [hF9]
                exact hP.sub [0, 1, 2] rfl
              have hD9 : va_D A [(h, .inr (3, [.int (rdZone f n kind ta ah).2.1, .int (rdZone f n kind ta ah).2.2])), (ar, .inr (0, [.ref ab, .int (nI n)])), (ab, .inl (cB, 242, .inl f))] := by
                try rw [hF9]
                exact hD.sub [0, 1, 2] (by decide) rfl
              have hv9 : (0 : Int32) = bI (rdZone f n kind ta ah).1 := by
                try rw [hF9]
                try rfl
              exact kc_zret hx hb hr hlocks hv9 (bI_nar hv9) hP9 hD9 hS dX3_readZone_95
          · refine lv_aload_n hx hb dX3_readZone_66 rfl (lv_at hl 4 rfl) ?_
            refine lv_aload_n hx hb dX3_readZone_67 rfl (lv_at hl 3 rfl) ?_
            refine va_get (D := (dC, dI)) (ci := 3) (v := .int v_46.2) (C := RX3) (T := TX3) (N := 2) hx hb hts kin_3 hown hK hP 0 rfl rfl 0 (by decide) (hts _ (kcm kwm_61)) (fun _ h9 => h9) rfl dX3_readZone_68 ?_
            have hPc := hP.sub (ws' := [(ar, .inr (0, [.ref ab, .int (nI n)])), (ab, .inl (cB, 242, .inl f))]) [1, 2] rfl
            have hDc := hD.sub (ws' := [(ar, .inr (0, [.ref ab, .int (nI n)])), (ab, .inl (cB, 242, .inl f))]) [1, 2] (by decide) rfl
            have hKc := hK.sub (tys' := [(cB, .byte)]) [0] rfl
            have hFc := va_free (wc := [(ar, .inr (0, [.ref ab, .int (nI n)])), (ab, .inl (cB, 242, .inl f))]) hD hS hA [1, 2] rfl
            refine kc_callSi (val := rDigit f n v_46.2) (va_runV (As := [.int v_46.2]) (rest := []) ⟨hx, hb, hml, hown, hts⟩ (c_Row_digitAt l dC dI st H.size ar ab cB f n v_46.2 hn) (cwV 1 hts (kwV kwm_45 kwm_46 kwm_47 kwm_4 kwm_44) rfl rfl rfl (by decide +kernel) ⟨Nat.le_of_ble_eq_true rfl, Nat.le_of_ble_eq_true rfl⟩) ⟨kc_blind, va_recv hKc hPc (ci := 0) (q0 := 0) rfl rfl, kc_pre hG hS hFc hKc hPc hDc⟩ rfl rfl hl.1 rfl (lv_room (Nat.le_of_ble_eq_true rfl)) dX3_readZone_71 ⟨Nat.le_of_ble_eq_true rfl, Nat.le_of_ble_eq_true rfl⟩) ?_
            refine lv_iconst (v := (-1)) hx hb dX3_readZone_74 (by decide) ?_
            refine lv_icmp_eq (tgt := 88) hx hb dX3_readZone_75 (by decide) (fun c_75 => ?_) (fun c_75 => ?_)
            · refine lv_iload hx hb dX3_readZone_88 (lv_at hl 0 rfl) ?_
              refine lv_iconst (v := (-1)) hx hb dX3_readZone_90 (by decide) ?_
              refine lv_icmp_ne (tgt := 96) hx hb dX3_readZone_91 (by decide) (fun c_91 => ?_) (fun c_91 => ?_)
              · refine lv_iload hx hb dX3_readZone_96 (lv_at hl 1 rfl) ?_
                refine lv_bipush (v := 60) hx hb dX3_readZone_98 (by decide) ?_
                refine lv_imul hx hb dX3_readZone_100 ?_
                refine lv_iload hx hb dX3_readZone_101 (lv_at hl 0 rfl) ?_
                refine lv_iadd hx hb dX3_readZone_103 ?_
                refine lv_istore (lv' := [(6, .int ((v_46.1 * 60) + 0)), (5, .int 0), (4, .int v_46.1), (3, .int (rByte f n ta)), (0, .ref h), (1, .ref ar), (2, .int kind)]) hx hb dX3_readZone_104 hl (by decide) rfl (fun ls hl => ?_)
                refine lv_aload_n hx hb dX3_readZone_106 rfl (lv_at hl 4 rfl) ?_
                refine lv_iload_n hx hb dX3_readZone_107 rfl (lv_at hl 3 rfl) ?_
                refine lv_bipush (v := 43) hx hb dX3_readZone_108 (by decide) ?_
                refine lv_icmp_ne (tgt := 118) hx hb dX3_readZone_110 (by decide) (fun c_110 => ?_) (fun c_110 => ?_)
                · refine lv_iload hx hb dX3_readZone_118 (lv_at hl 0 rfl) ?_
                  refine lv_ineg hx hb dX3_readZone_120 ?_
                  refine va_put (D := (dC, dI)) (ci := 3) (v := .int (-((v_46.1 * 60) + 0))) (ty := .int) (C := RX3) (T := TX3) (N := 2) hx hb hts kin_3 tyX3 tyX3_ok nmX3 hown hK hP hD hS 0 rfl rfl 1 (by decide) (hts _ (kcm kwm_63)) (fun _ h9 => h9) rfl (by decide +kernel) rfl rfl (Nat.le_of_ble_eq_true rfl) dX3_readZone_121 (fun H locs hP hD hS => ?_)
                  have hP : va_P (dC, dI) kcl [(h, .inr (3, [.int v_46.2, .int (-((v_46.1 * 60) + 0))])), (ar, .inr (0, [.ref ab, .int (nI n)])), (ab, .inl (cB, 242, .inl f))] H := hP
                  have hD : va_D A [(h, .inr (3, [.int v_46.2, .int (-((v_46.1 * 60) + 0))])), (ar, .inr (0, [.ref ab, .int (nI n)])), (ab, .inl (cB, 242, .inl f))] := hD
                  refine lv_iconst (v := 1) hx hb dX3_readZone_124 (by decide) ?_
                  have hF9 : rdZone f n kind ta ah = (true, v_46.2, -((v_46.1 * 60) + 0)) := by
                    subst e_46
                    first | (simp only [rdZone, if_neg c_22, if_neg c_30, if_pos c_36, if_neg c_54, if_neg c_63, if_pos c_75]; done) | rfl
                  have hP9 : va_P (dC, dI) kcl [(h, .inr (3, [.int (rdZone f n kind ta ah).2.1, .int (rdZone f n kind ta ah).2.2])), (ar, .inr (0, [.ref ab, .int (nI n)])), (ab, .inl (cB, 242, .inl f))] H := by
                    try rw [hF9]
                    exact hP.sub [0, 1, 2] rfl
                  have hD9 : va_D A [(h, .inr (3, [.int (rdZone f n kind ta ah).2.1, .int (rdZone f n kind ta ah).2.2])), (ar, .inr (0, [.ref ab, .int (nI n)])), (ab, .inl (cB, 242, .inl f))] := by
                    try rw [hF9]
                    exact hD.sub [0, 1, 2] (by decide) rfl
                  have hv9 : (1 : Int32) = bI (rdZone f n kind ta ah).1 := by
                    try rw [hF9]
                    try rfl
                  exact kc_zret hx hb hr hlocks hv9 (bI_nar hv9) hP9 hD9 hS dX3_readZone_125
                · exact absurd c_110 c_30
              · exact absurd c_91 (by decide)
            · refine lv_aload_n hx hb dX3_readZone_78 rfl (lv_at hl 3 rfl) ?_
              refine lv_aload_n hx hb dX3_readZone_79 rfl (lv_at hl 4 rfl) ?_
              refine lv_iconst (v := 0) hx hb dX3_readZone_80 (by decide) ?_
              refine lv_bipush (v := 59) hx hb dX3_readZone_81 (by decide) ?_
              have hPc := hP.sub (ws' := [(h, .inr (3, [.int v_46.2, .int ah])), (ar, .inr (0, [.ref ab, .int (nI n)])), (ab, .inl (cB, 242, .inl f))]) [0, 1, 2] rfl
              have hDc := hD.sub (ws' := [(h, .inr (3, [.int v_46.2, .int ah])), (ar, .inr (0, [.ref ab, .int (nI n)])), (ab, .inl (cB, 242, .inl f))]) [0, 1, 2] (by decide) rfl
              have hKc := hK.sub (tys' := [(cB, .byte)]) [0] rfl
              have hFc := va_free (wc := [(h, .inr (3, [.int v_46.2, .int ah])), (ar, .inr (0, [.ref ab, .int (nI n)])), (ab, .inl (cB, 242, .inl f))]) hD hS hA [0, 1, 2] rfl
              refine kc_calli (val := (rdPair f n v_46.2 0 59).1) (wr := []) (w1 := [(h, .inr (3, [.int (rdPair f n v_46.2 0 59).2, .int ah])), (ar, .inr (0, [.ref ab, .int (nI n)])), (ab, .inl (cB, 242, .inl f))]) (va_runV (As := [.ref ar, .int 0, .int 59]) (rest := []) ⟨hx, hb, hml, hown, hts⟩ (c_Rd_readPair l dC dI st H.size h ar ab cB f n v_46.2 ah 0 59 hn) (cwV 3 hts (kwV kwm_49 kwm_50 kwm_51 kwm_52 kwm_48) rfl rfl rfl (by decide +kernel) ⟨Nat.le_of_ble_eq_true rfl, Nat.le_of_ble_eq_true rfl⟩) ⟨kc_blind, va_recv hKc hPc (ci := 3) (q0 := 0) rfl rfl, kc_pre hG hS hFc hKc hPc hDc⟩ rfl rfl hl.1 rfl (lv_room (Nat.le_of_ble_eq_true rfl)) dX3_readZone_83 ⟨Nat.le_of_ble_eq_true rfl, Nat.le_of_ble_eq_true rfl⟩) hP hD hS hFc [0, 1, 2] [] rfl rfl (by decide) (by decide) (fun H locs hP hD hS => ?_)
              have hP : va_P (dC, dI) kcl [(h, .inr (3, [.int (rdPair f n v_46.2 0 59).2, .int ah])), (ar, .inr (0, [.ref ab, .int (nI n)])), (ab, .inl (cB, 242, .inl f))] H := hP
              have hD : va_D A [(h, .inr (3, [.int (rdPair f n v_46.2 0 59).2, .int ah])), (ar, .inr (0, [.ref ab, .int (nI n)])), (ab, .inl (cB, 242, .inl f))] := hD
              generalize e_83 : rdPair f n v_46.2 0 59 = v_83 at hP hD ⊢
              have hP : va_P (dC, dI) kcl [(h, .inr (3, [.int v_83.2, .int ah])), (ar, .inr (0, [.ref ab, .int (nI n)])), (ab, .inl (cB, 242, .inl f))] H := hP
              have hD : va_D A [(h, .inr (3, [.int v_83.2, .int ah])), (ar, .inr (0, [.ref ab, .int (nI n)])), (ab, .inl (cB, 242, .inl f))] := hD
              refine lv_istore (lv' := [(5, .int v_83.1), (4, .int v_46.1), (3, .int (rByte f n ta)), (0, .ref h), (1, .ref ar), (2, .int kind)]) hx hb dX3_readZone_86 hl (by decide) rfl (fun ls hl => ?_)
              refine lv_iload hx hb dX3_readZone_88 (lv_at hl 0 rfl) ?_
              refine lv_iconst (v := (-1)) hx hb dX3_readZone_90 (by decide) ?_
              refine lv_icmp_ne (tgt := 96) hx hb dX3_readZone_91 (by decide) (fun c_91 => ?_) (fun c_91 => ?_)
              · refine lv_iload hx hb dX3_readZone_96 (lv_at hl 1 rfl) ?_
                refine lv_bipush (v := 60) hx hb dX3_readZone_98 (by decide) ?_
                refine lv_imul hx hb dX3_readZone_100 ?_
                refine lv_iload hx hb dX3_readZone_101 (lv_at hl 0 rfl) ?_
                refine lv_iadd hx hb dX3_readZone_103 ?_
                refine lv_istore (lv' := [(6, .int ((v_46.1 * 60) + v_83.1)), (5, .int v_83.1), (4, .int v_46.1), (3, .int (rByte f n ta)), (0, .ref h), (1, .ref ar), (2, .int kind)]) hx hb dX3_readZone_104 hl (by decide) rfl (fun ls hl => ?_)
                refine lv_aload_n hx hb dX3_readZone_106 rfl (lv_at hl 4 rfl) ?_
                refine lv_iload_n hx hb dX3_readZone_107 rfl (lv_at hl 3 rfl) ?_
                refine lv_bipush (v := 43) hx hb dX3_readZone_108 (by decide) ?_
                refine lv_icmp_ne (tgt := 118) hx hb dX3_readZone_110 (by decide) (fun c_110 => ?_) (fun c_110 => ?_)
                · refine lv_iload hx hb dX3_readZone_118 (lv_at hl 0 rfl) ?_
                  refine lv_ineg hx hb dX3_readZone_120 ?_
                  refine va_put (D := (dC, dI)) (ci := 3) (v := .int (-((v_46.1 * 60) + v_83.1))) (ty := .int) (C := RX3) (T := TX3) (N := 2) hx hb hts kin_3 tyX3 tyX3_ok nmX3 hown hK hP hD hS 0 rfl rfl 1 (by decide) (hts _ (kcm kwm_63)) (fun _ h9 => h9) rfl (by decide +kernel) rfl rfl (Nat.le_of_ble_eq_true rfl) dX3_readZone_121 (fun H locs hP hD hS => ?_)
                  have hP : va_P (dC, dI) kcl [(h, .inr (3, [.int v_83.2, .int (-((v_46.1 * 60) + v_83.1))])), (ar, .inr (0, [.ref ab, .int (nI n)])), (ab, .inl (cB, 242, .inl f))] H := hP
                  have hD : va_D A [(h, .inr (3, [.int v_83.2, .int (-((v_46.1 * 60) + v_83.1))])), (ar, .inr (0, [.ref ab, .int (nI n)])), (ab, .inl (cB, 242, .inl f))] := hD
                  refine lv_iconst (v := 1) hx hb dX3_readZone_124 (by decide) ?_
                  have hF9 : rdZone f n kind ta ah = (true, v_83.2, -((v_46.1 * 60) + v_83.1)) := by
                    subst e_83
                    subst e_46
                    first | (simp only [rdZone, if_neg c_22, if_neg c_30, if_pos c_36, if_neg c_54, if_neg c_63, if_neg c_75, if_neg c_91]; done) | rfl
                  have hP9 : va_P (dC, dI) kcl [(h, .inr (3, [.int (rdZone f n kind ta ah).2.1, .int (rdZone f n kind ta ah).2.2])), (ar, .inr (0, [.ref ab, .int (nI n)])), (ab, .inl (cB, 242, .inl f))] H := by
                    try rw [hF9]
                    exact hP.sub [0, 1, 2] rfl
                  have hD9 : va_D A [(h, .inr (3, [.int (rdZone f n kind ta ah).2.1, .int (rdZone f n kind ta ah).2.2])), (ar, .inr (0, [.ref ab, .int (nI n)])), (ab, .inl (cB, 242, .inl f))] := by
                    try rw [hF9]
                    exact hD.sub [0, 1, 2] (by decide) rfl
                  have hv9 : (1 : Int32) = bI (rdZone f n kind ta ah).1 := by
                    try rw [hF9]
                    try rfl
                  exact kc_zret hx hb hr hlocks hv9 (bI_nar hv9) hP9 hD9 hS dX3_readZone_125
                · exact absurd c_110 c_30
              · refine lv_iconst (v := 0) hx hb dX3_readZone_94 (by decide) ?_
                have hF9 : rdZone f n kind ta ah = (false, v_83.2, ah) := by
                  subst e_83
                  subst e_46
                  first | (simp only [rdZone, if_neg c_22, if_neg c_30, if_pos c_36, if_neg c_54, if_neg c_63, if_neg c_75, if_pos c_91]; done) | rfl
                have hP9 : va_P (dC, dI) kcl [(h, .inr (3, [.int (rdZone f n kind ta ah).2.1, .int (rdZone f n kind ta ah).2.2])), (ar, .inr (0, [.ref ab, .int (nI n)])), (ab, .inl (cB, 242, .inl f))] H := by
                  try rw [hF9]
                  exact hP.sub [0, 1, 2] rfl
                have hD9 : va_D A [(h, .inr (3, [.int (rdZone f n kind ta ah).2.1, .int (rdZone f n kind ta ah).2.2])), (ar, .inr (0, [.ref ab, .int (nI n)])), (ab, .inl (cB, 242, .inl f))] := by
                  try rw [hF9]
                  exact hD.sub [0, 1, 2] (by decide) rfl
                have hv9 : (0 : Int32) = bI (rdZone f n kind ta ah).1 := by
                  try rw [hF9]
                  try rfl
                exact kc_zret hx hb hr hlocks hv9 (bI_nar hv9) hP9 hD9 hS dX3_readZone_95
        · refine lv_iconst (v := 0) hx hb dX3_readZone_57 (by decide) ?_
          have hF9 : rdZone f n kind ta ah = (false, v_46.2, ah) := by
            subst e_46
            first | (simp only [rdZone, if_neg c_22, if_neg c_30, if_pos c_36, if_pos c_54]; done) | rfl
          have hP9 : va_P (dC, dI) kcl [(h, .inr (3, [.int (rdZone f n kind ta ah).2.1, .int (rdZone f n kind ta ah).2.2])), (ar, .inr (0, [.ref ab, .int (nI n)])), (ab, .inl (cB, 242, .inl f))] H := by
            try rw [hF9]
            exact hP.sub [0, 1, 2] rfl
          have hD9 : va_D A [(h, .inr (3, [.int (rdZone f n kind ta ah).2.1, .int (rdZone f n kind ta ah).2.2])), (ar, .inr (0, [.ref ab, .int (nI n)])), (ab, .inl (cB, 242, .inl f))] := by
            try rw [hF9]
            exact hD.sub [0, 1, 2] (by decide) rfl
          have hv9 : (0 : Int32) = bI (rdZone f n kind ta ah).1 := by
            try rw [hF9]
            try rfl
          exact kc_zret hx hb hr hlocks hv9 (bI_nar hv9) hP9 hD9 hS dX3_readZone_58
      · refine lv_iconst (v := 0) hx hb dX3_readZone_39 (by decide) ?_
        have hF9 : rdZone f n kind ta ah = (false, ta + 1, ah) := by
          first | (simp only [rdZone, if_neg c_22, if_neg c_30, if_neg c_36]; done) | rfl
        have hP9 : va_P (dC, dI) kcl [(h, .inr (3, [.int (rdZone f n kind ta ah).2.1, .int (rdZone f n kind ta ah).2.2])), (ar, .inr (0, [.ref ab, .int (nI n)])), (ab, .inl (cB, 242, .inl f))] H := by
          try rw [hF9]
          exact hP.sub [0, 1, 2] rfl
        have hD9 : va_D A [(h, .inr (3, [.int (rdZone f n kind ta ah).2.1, .int (rdZone f n kind ta ah).2.2])), (ar, .inr (0, [.ref ab, .int (nI n)])), (ab, .inl (cB, 242, .inl f))] := by
          try rw [hF9]
          exact hD.sub [0, 1, 2] (by decide) rfl
        have hv9 : (0 : Int32) = bI (rdZone f n kind ta ah).1 := by
          try rw [hF9]
          try rfl
        exact kc_zret hx hb hr hlocks hv9 (bI_nar hv9) hP9 hD9 hS dX3_readZone_40
  · refine lv_iconst (v := 1) hx hb dX3_readZone_25 (by decide) ?_
    have hF9 : rdZone f n kind ta ah = (true, ta + 1, ah) := by
      first | (simp only [rdZone, if_pos c_22]; done) | rfl
    have hP9 : va_P (dC, dI) kcl [(h, .inr (3, [.int (rdZone f n kind ta ah).2.1, .int (rdZone f n kind ta ah).2.2])), (ar, .inr (0, [.ref ab, .int (nI n)])), (ab, .inl (cB, 242, .inl f))] H := by
      try rw [hF9]
      exact hP.sub [0, 1, 2] rfl
    have hD9 : va_D A [(h, .inr (3, [.int (rdZone f n kind ta ah).2.1, .int (rdZone f n kind ta ah).2.2])), (ar, .inr (0, [.ref ab, .int (nI n)])), (ab, .inl (cB, 242, .inl f))] := by
      try rw [hF9]
      exact hD.sub [0, 1, 2] (by decide) rfl
    have hv9 : (1 : Int32) = bI (rdZone f n kind ta ah).1 := by
      try rw [hF9]
      try rfl
    exact kc_zret hx hb hr hlocks hv9 (bI_nar hv9) hP9 hD9 hS dX3_readZone_26
