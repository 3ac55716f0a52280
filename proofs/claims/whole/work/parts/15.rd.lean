def rdPair (f : Nat → Int32) (n : Nat) (ta lo hi : Int32) : Int32 × Int32 :=
  if (rDigit f n ta) = (-1) then
    ((-1), ta)
  else
    if (rDigit f n (ta + 1)) = (-1) then
      ((-1), ta)
    else
      if (((rDigit f n ta) * 10) + (rDigit f n (ta + 1))) < lo then
        ((-1), ta)
      else
        if (((rDigit f n ta) * 10) + (rDigit f n (ta + 1))) ≤ hi then
          (((rDigit f n ta) * 10) + (rDigit f n (ta + 1)), ta + 2)
        else
          ((-1), ta)
set_option maxHeartbeats 4000000 in
set_option maxRecDepth 100000 in
theorem c_Rd_readPair (l : Launch) (dC : Nat → ClassId) (dI : Nat → Nat → Nat) (st sz : Nat) (h : Nat) (ar : Nat) (ab : Nat) (cB : ClassId) (f : Nat → Int32) (n : Nat) (ta : Int32) (ah : Int32) (lo : Int32) (hi : Int32) (hn : n ≤ 242) : Met l yX3_readPair wsX3_readPair ({ frames := 2, cells := 0, slots := 0, locals := 43 }) (kc_Pc (dC, dI) kcl st sz [.ref h, .ref ar, .int lo, .int hi] [(h, .inr (3, [.int ta, .int ah])), (ar, .inr (0, [.ref ab, .int (nI n)])), (ab, .inl (cB, 242, .inl f))] [(cB, .byte)]) (kc_Qi (dC, dI) kcl (rdPair f n ta lo hi).1 [(h, .inr (3, [.int (rdPair f n ta lo hi).2, .int ah])), (ar, .inr (0, [.ref ab, .int (nI n)])), (ab, .inl (cB, 242, .inl f))] (va_A [(h, .inr (3, [.int ta, .int ah])), (ar, .inr (0, [.ref ab, .int (nI n)])), (ab, .inl (cB, 242, .inl f))] sz)) 0 0 (va_A [(h, .inr (3, [.int ta, .int ah])), (ar, .inr (0, [.ref ab, .int (nI n)])), (ab, .inl (cB, 242, .inl f))] sz) := by
  refine kc_ofW (Qc := fun A => (kc_Qi (dC, dI) kcl (rdPair f n ta lo hi).1 [(h, .inr (3, [.int (rdPair f n ta lo hi).2, .int ah])), (ar, .inr (0, [.ref ab, .int (nI n)])), (ab, .inl (cB, 242, .inl f))] A)) (cc := cX3_readPair) (maxL := 7) (ret := (some .int)) (by decide) rfl (Nat.le_of_ble_eq_true rfl) ?_
  intro p e s m below meth c A ls Cx hA hG hK hP hD hS hl
  obtain ⟨hx, hb, hr, hml, hown, hts, hlocks, hnm⟩ := id Cx
  have hl : lv_has ls 7 [(0, .ref h), (1, .ref ar), (2, .int lo), (3, .int hi)] := hl
  refine lv_aload_n hx hb dX3_readPair_0 rfl (lv_at hl 1 rfl) ?_
  refine lv_aload_n hx hb dX3_readPair_1 rfl (lv_at hl 0 rfl) ?_
  refine va_get (D := (dC, dI)) (ci := 3) (v := .int ta) (C := RX3) (T := TX3) (N := 2) hx hb hts kin_3 hown hK hP 0 rfl rfl 0 (by decide) (hts _ (kcm kwm_61)) (fun _ h9 => h9) rfl dX3_readPair_2 ?_
  have hPc := hP.sub (ws' := [(ar, .inr (0, [.ref ab, .int (nI n)])), (ab, .inl (cB, 242, .inl f))]) [1, 2] rfl
  have hDc := hD.sub (ws' := [(ar, .inr (0, [.ref ab, .int (nI n)])), (ab, .inl (cB, 242, .inl f))]) [1, 2] (by decide) rfl
  have hKc := hK.sub (tys' := [(cB, .byte)]) [0] rfl
  have hFc := va_free (wc := [(ar, .inr (0, [.ref ab, .int (nI n)])), (ab, .inl (cB, 242, .inl f))]) hD hS hA [1, 2] rfl
  refine kc_callSi (val := rDigit f n ta) (va_runV (As := [.int ta]) (rest := []) ⟨hx, hb, hml, hown, hts⟩ (c_Row_digitAt l dC dI st s.heap.size ar ab cB f n ta hn) (cwV 1 hts (kwV kwm_45 kwm_46 kwm_47 kwm_4 kwm_44) rfl rfl rfl (by decide +kernel) ⟨Nat.le_of_ble_eq_true rfl, Nat.le_of_ble_eq_true rfl⟩) ⟨kc_blind, va_recv hKc hPc (ci := 0) (q0 := 0) rfl rfl, kc_pre hG hS hFc hKc hPc hDc⟩ rfl rfl hl.1 rfl (lv_room (Nat.le_of_ble_eq_true rfl)) dX3_readPair_5 ⟨Nat.le_of_ble_eq_true rfl, Nat.le_of_ble_eq_true rfl⟩) ?_
  refine lv_istore (lv' := [(4, .int (rDigit f n ta)), (0, .ref h), (1, .ref ar), (2, .int lo), (3, .int hi)]) hx hb dX3_readPair_8 hl (by decide) rfl (fun ls hl => ?_)
  refine lv_aload_n hx hb dX3_readPair_10 rfl (lv_at hl 2 rfl) ?_
  refine lv_aload_n hx hb dX3_readPair_11 rfl (lv_at hl 1 rfl) ?_
  refine va_get (D := (dC, dI)) (ci := 3) (v := .int ta) (C := RX3) (T := TX3) (N := 2) hx hb hts kin_3 hown hK hP 0 rfl rfl 0 (by decide) (hts _ (kcm kwm_61)) (fun _ h9 => h9) rfl dX3_readPair_12 ?_
  refine lv_iconst (v := 1) hx hb dX3_readPair_15 (by decide) ?_
  refine lv_iadd hx hb dX3_readPair_16 ?_
  have hPc := hP.sub (ws' := [(ar, .inr (0, [.ref ab, .int (nI n)])), (ab, .inl (cB, 242, .inl f))]) [1, 2] rfl
  have hDc := hD.sub (ws' := [(ar, .inr (0, [.ref ab, .int (nI n)])), (ab, .inl (cB, 242, .inl f))]) [1, 2] (by decide) rfl
  have hKc := hK.sub (tys' := [(cB, .byte)]) [0] rfl
  have hFc := va_free (wc := [(ar, .inr (0, [.ref ab, .int (nI n)])), (ab, .inl (cB, 242, .inl f))]) hD hS hA [1, 2] rfl
  refine kc_callSi (val := rDigit f n (ta + 1)) (va_runV (As := [.int (ta + 1)]) (rest := []) ⟨hx, hb, hml, hown, hts⟩ (c_Row_digitAt l dC dI st s.heap.size ar ab cB f n (ta + 1) hn) (cwV 1 hts (kwV kwm_45 kwm_46 kwm_47 kwm_4 kwm_44) rfl rfl rfl (by decide +kernel) ⟨Nat.le_of_ble_eq_true rfl, Nat.le_of_ble_eq_true rfl⟩) ⟨kc_blind, va_recv hKc hPc (ci := 0) (q0 := 0) rfl rfl, kc_pre hG hS hFc hKc hPc hDc⟩ rfl rfl hl.1 rfl (lv_room (Nat.le_of_ble_eq_true rfl)) dX3_readPair_17 ⟨Nat.le_of_ble_eq_true rfl, Nat.le_of_ble_eq_true rfl⟩) ?_
  refine lv_istore (lv' := [(5, .int (rDigit f n (ta + 1))), (4, .int (rDigit f n ta)), (0, .ref h), (1, .ref ar), (2, .int lo), (3, .int hi)]) hx hb dX3_readPair_20 hl (by decide) rfl (fun ls hl => ?_)
  refine lv_iload hx hb dX3_readPair_22 (lv_at hl 1 rfl) ?_
  refine lv_iconst (v := (-1)) hx hb dX3_readPair_24 (by decide) ?_
  refine lv_icmp_eq (tgt := 34) hx hb dX3_readPair_25 (by decide) (fun c_25 => ?_) (fun c_25 => ?_)
  · refine lv_iconst (v := (-1)) hx hb dX3_readPair_34 (by decide) ?_
    have hF9 : rdPair f n ta lo hi = ((-1), ta) := by
      first | (simp only [rdPair, if_pos c_25]; done) | rfl
    have hP9 : va_P (dC, dI) kcl [(h, .inr (3, [.int (rdPair f n ta lo hi).2, .int ah])), (ar, .inr (0, [.ref ab, .int (nI n)])), (ab, .inl (cB, 242, .inl f))] s.heap := by
      try rw [hF9]
      exact hP.sub [0, 1, 2] rfl
    have hD9 : va_D A [(h, .inr (3, [.int (rdPair f n ta lo hi).2, .int ah])), (ar, .inr (0, [.ref ab, .int (nI n)])), (ab, .inl (cB, 242, .inl f))] := by
      try rw [hF9]
      exact hD.sub [0, 1, 2] (by decide) rfl
    have hv9 : ((-1) : Int32) = (rdPair f n ta lo hi).1 := by
      try rw [hF9]
      try rfl
    exact kc_iret hx hb hr hlocks hv9 hP9 hD9 hS dX3_readPair_35
  · refine lv_iload hx hb dX3_readPair_28 (lv_at hl 0 rfl) ?_
    refine lv_iconst (v := (-1)) hx hb dX3_readPair_30 (by decide) ?_
    refine lv_icmp_ne (tgt := 36) hx hb dX3_readPair_31 (by decide) (fun c_31 => ?_) (fun c_31 => ?_)
    · refine lv_iload hx hb dX3_readPair_36 (lv_at hl 1 rfl) ?_
      refine lv_bipush (v := 10) hx hb dX3_readPair_38 (by decide) ?_
      refine lv_imul hx hb dX3_readPair_40 ?_
      refine lv_iload hx hb dX3_readPair_41 (lv_at hl 0 rfl) ?_
      refine lv_iadd hx hb dX3_readPair_43 ?_
      refine lv_istore (lv' := [(6, .int (((rDigit f n ta) * 10) + (rDigit f n (ta + 1)))), (5, .int (rDigit f n (ta + 1))), (4, .int (rDigit f n ta)), (0, .ref h), (1, .ref ar), (2, .int lo), (3, .int hi)]) hx hb dX3_readPair_44 hl (by decide) rfl (fun ls hl => ?_)
      refine lv_iload hx hb dX3_readPair_46 (lv_at hl 0 rfl) ?_
      refine lv_iload_n hx hb dX3_readPair_48 rfl (lv_at hl 5 rfl) ?_
      refine lv_icmp_lt (tgt := 58) hx hb dX3_readPair_49 (by decide) (fun c_49 => ?_) (fun c_49 => ?_)
      · refine lv_iconst (v := (-1)) hx hb dX3_readPair_58 (by decide) ?_
        have hF9 : rdPair f n ta lo hi = ((-1), ta) := by
          first | (simp only [rdPair, if_neg c_25, if_neg c_31, if_pos c_49]; done) | rfl
        have hP9 : va_P (dC, dI) kcl [(h, .inr (3, [.int (rdPair f n ta lo hi).2, .int ah])), (ar, .inr (0, [.ref ab, .int (nI n)])), (ab, .inl (cB, 242, .inl f))] s.heap := by
          try rw [hF9]
          exact hP.sub [0, 1, 2] rfl
        have hD9 : va_D A [(h, .inr (3, [.int (rdPair f n ta lo hi).2, .int ah])), (ar, .inr (0, [.ref ab, .int (nI n)])), (ab, .inl (cB, 242, .inl f))] := by
          try rw [hF9]
          exact hD.sub [0, 1, 2] (by decide) rfl
        have hv9 : ((-1) : Int32) = (rdPair f n ta lo hi).1 := by
          try rw [hF9]
          try rfl
        exact kc_iret hx hb hr hlocks hv9 hP9 hD9 hS dX3_readPair_59
      · refine lv_iload hx hb dX3_readPair_52 (lv_at hl 0 rfl) ?_
        refine lv_iload_n hx hb dX3_readPair_54 rfl (lv_at hl 6 rfl) ?_
        refine lv_icmp_le (tgt := 60) hx hb dX3_readPair_55 (by decide) (fun c_55 => ?_) (fun c_55 => ?_)
        · refine lv_aload_n hx hb dX3_readPair_60 rfl (lv_at hl 3 rfl) ?_
          refine lv_dup hx hb dX3_readPair_61 rfl ?_
          refine va_get (D := (dC, dI)) (ci := 3) (v := .int ta) (C := RX3) (T := TX3) (N := 2) hx hb hts kin_3 hown hK hP 0 rfl rfl 0 (by decide) (hts _ (kcm kwm_61)) (fun _ h9 => h9) rfl dX3_readPair_62 ?_
          refine lv_iconst (v := 2) hx hb dX3_readPair_65 (by decide) ?_
          refine lv_iadd hx hb dX3_readPair_66 ?_
          refine va_put (D := (dC, dI)) (ci := 3) (v := .int (ta + 2)) (ty := .int) (C := RX3) (T := TX3) (N := 2) hx hb hts kin_3 tyX3 tyX3_ok nmX3 hown hK hP hD hS 0 rfl rfl 0 (by decide) (hts _ (kcm kwm_61)) (fun _ h9 => h9) rfl (by decide +kernel) rfl rfl (Nat.le_of_ble_eq_true rfl) dX3_readPair_67 (fun H locs hP hD hS => ?_)
          have hP : va_P (dC, dI) kcl [(h, .inr (3, [.int (ta + 2), .int ah])), (ar, .inr (0, [.ref ab, .int (nI n)])), (ab, .inl (cB, 242, .inl f))] H := hP
          have hD : va_D A [(h, .inr (3, [.int (ta + 2), .int ah])), (ar, .inr (0, [.ref ab, .int (nI n)])), (ab, .inl (cB, 242, .inl f))] := hD
          refine lv_iload hx hb dX3_readPair_70 (lv_at hl 0 rfl) ?_
          have hF9 : rdPair f n ta lo hi = (((rDigit f n ta) * 10) + (rDigit f n (ta + 1)), ta + 2) := by
            first | (simp only [rdPair, if_neg c_25, if_neg c_31, if_neg c_49, if_pos c_55]; done) | rfl
          have hP9 : va_P (dC, dI) kcl [(h, .inr (3, [.int (rdPair f n ta lo hi).2, .int ah])), (ar, .inr (0, [.ref ab, .int (nI n)])), (ab, .inl (cB, 242, .inl f))] H := by
            try rw [hF9]
            exact hP.sub [0, 1, 2] rfl
          have hD9 : va_D A [(h, .inr (3, [.int (rdPair f n ta lo hi).2, .int ah])), (ar, .inr (0, [.ref ab, .int (nI n)])), (ab, .inl (cB, 242, .inl f))] := by
            try rw [hF9]
            exact hD.sub [0, 1, 2] (by decide) rfl
          have hv9 : ((rDigit f n ta) * 10) + (rDigit f n (ta + 1)) = (rdPair f n ta lo hi).1 := by
            try rw [hF9]
            try rfl
          exact kc_iret hx hb hr hlocks hv9 hP9 hD9 hS dX3_readPair_72
        · refine lv_iconst (v := (-1)) hx hb dX3_readPair_58 (by decide) ?_
          have hF9 : rdPair f n ta lo hi = ((-1), ta) := by
            first | (simp only [rdPair, if_neg c_25, if_neg c_31, if_neg c_49, if_neg c_55]; done) | rfl
          have hP9 : va_P (dC, dI) kcl [(h, .inr (3, [.int (rdPair f n ta lo hi).2, .int ah])), (ar, .inr (0, [.ref ab, .int (nI n)])), (ab, .inl (cB, 242, .inl f))] s.heap := by
            try rw [hF9]
            exact hP.sub [0, 1, 2] rfl
          have hD9 : va_D A [(h, .inr (3, [.int (rdPair f n ta lo hi).2, .int ah])), (ar, .inr (0, [.ref ab, .int (nI n)])), (ab, .inl (cB, 242, .inl f))] := by
            try rw [hF9]
            exact hD.sub [0, 1, 2] (by decide) rfl
          have hv9 : ((-1) : Int32) = (rdPair f n ta lo hi).1 := by
            try rw [hF9]
            try rfl
          exact kc_iret hx hb hr hlocks hv9 hP9 hD9 hS dX3_readPair_59
    · refine lv_iconst (v := (-1)) hx hb dX3_readPair_34 (by decide) ?_
      have hF9 : rdPair f n ta lo hi = ((-1), ta) := by
        first | (simp only [rdPair, if_neg c_25, if_pos c_31]; done) | rfl
      have hP9 : va_P (dC, dI) kcl [(h, .inr (3, [.int (rdPair f n ta lo hi).2, .int ah])), (ar, .inr (0, [.ref ab, .int (nI n)])), (ab, .inl (cB, 242, .inl f))] s.heap := by
        try rw [hF9]
        exact hP.sub [0, 1, 2] rfl
      have hD9 : va_D A [(h, .inr (3, [.int (rdPair f n ta lo hi).2, .int ah])), (ar, .inr (0, [.ref ab, .int (nI n)])), (ab, .inl (cB, 242, .inl f))] := by
        try rw [hF9]
        exact hD.sub [0, 1, 2] (by decide) rfl
      have hv9 : ((-1) : Int32) = (rdPair f n ta lo hi).1 := by
        try rw [hF9]
        try rfl
      exact kc_iret hx hb hr hlocks hv9 hP9 hD9 hS dX3_readPair_35
def rdShort (f : Nat → Int32) (n : Nat) (ta : Int32) : Int32 × Int32 :=
  let v_5 := rdPair f n ta 0 99
  if v_5.1 = (-1) then
    ((-1), v_5.2)
  else
    if 50 ≤ v_5.1 then
      (1900 + v_5.1, v_5.2)
    else
      (2000 + v_5.1, v_5.2)
set_option maxHeartbeats 4000000 in
set_option maxRecDepth 100000 in
theorem c_Rd_shortYear (l : Launch) (dC : Nat → ClassId) (dI : Nat → Nat → Nat) (st sz : Nat) (h : Nat) (ar : Nat) (ab : Nat) (cB : ClassId) (f : Nat → Int32) (n : Nat) (ta : Int32) (ah : Int32) (hn : n ≤ 242) : Met l yX3_shortYear wsX3_shortYear ({ frames := 3, cells := 0, slots := 0, locals := 69 }) (kc_Pc (dC, dI) kcl st sz [.ref h, .ref ar] [(h, .inr (3, [.int ta, .int ah])), (ar, .inr (0, [.ref ab, .int (nI n)])), (ab, .inl (cB, 242, .inl f))] [(cB, .byte)]) (kc_Qi (dC, dI) kcl (rdShort f n ta).1 [(h, .inr (3, [.int (rdShort f n ta).2, .int ah])), (ar, .inr (0, [.ref ab, .int (nI n)])), (ab, .inl (cB, 242, .inl f))] (va_A [(h, .inr (3, [.int ta, .int ah])), (ar, .inr (0, [.ref ab, .int (nI n)])), (ab, .inl (cB, 242, .inl f))] sz)) 0 0 (va_A [(h, .inr (3, [.int ta, .int ah])), (ar, .inr (0, [.ref ab, .int (nI n)])), (ab, .inl (cB, 242, .inl f))] sz) := by
  refine kc_ofW (Qc := fun A => (kc_Qi (dC, dI) kcl (rdShort f n ta).1 [(h, .inr (3, [.int (rdShort f n ta).2, .int ah])), (ar, .inr (0, [.ref ab, .int (nI n)])), (ab, .inl (cB, 242, .inl f))] A)) (cc := cX3_shortYear) (maxL := 3) (ret := (some .int)) (by decide) rfl (Nat.le_of_ble_eq_true rfl) ?_
  intro p e s m below meth c A ls Cx hA hG hK hP hD hS hl
  obtain ⟨hx, hb, hr, hml, hown, hts, hlocks, hnm⟩ := id Cx
  have hl : lv_has ls 3 [(0, .ref h), (1, .ref ar)] := hl
  refine lv_aload_n hx hb dX3_shortYear_0 rfl (lv_at hl 0 rfl) ?_
  refine lv_aload_n hx hb dX3_shortYear_1 rfl (lv_at hl 1 rfl) ?_
  refine lv_iconst (v := 0) hx hb dX3_shortYear_2 (by decide) ?_
  refine lv_bipush (v := 99) hx hb dX3_shortYear_3 (by decide) ?_
  have hPc := hP.sub (ws' := [(h, .inr (3, [.int ta, .int ah])), (ar, .inr (0, [.ref ab, .int (nI n)])), (ab, .inl (cB, 242, .inl f))]) [0, 1, 2] rfl
  have hDc := hD.sub (ws' := [(h, .inr (3, [.int ta, .int ah])), (ar, .inr (0, [.ref ab, .int (nI n)])), (ab, .inl (cB, 242, .inl f))]) [0, 1, 2] (by decide) rfl
  have hKc := hK.sub (tys' := [(cB, .byte)]) [0] rfl
  have hFc := va_free (wc := [(h, .inr (3, [.int ta, .int ah])), (ar, .inr (0, [.ref ab, .int (nI n)])), (ab, .inl (cB, 242, .inl f))]) hD hS hA [0, 1, 2] rfl
  refine kc_calli (val := (rdPair f n ta 0 99).1) (wr := []) (w1 := [(h, .inr (3, [.int (rdPair f n ta 0 99).2, .int ah])), (ar, .inr (0, [.ref ab, .int (nI n)])), (ab, .inl (cB, 242, .inl f))]) (va_runV (As := [.ref ar, .int 0, .int 99]) (rest := []) ⟨hx, hb, hml, hown, hts⟩ (c_Rd_readPair l dC dI st s.heap.size h ar ab cB f n ta ah 0 99 hn) (cwV 3 hts (kwV kwm_49 kwm_50 kwm_51 kwm_52 kwm_48) rfl rfl rfl (by decide +kernel) ⟨Nat.le_of_ble_eq_true rfl, Nat.le_of_ble_eq_true rfl⟩) ⟨kc_blind, va_recv hKc hPc (ci := 3) (q0 := 0) rfl rfl, kc_pre hG hS hFc hKc hPc hDc⟩ rfl rfl hl.1 rfl (lv_room (Nat.le_of_ble_eq_true rfl)) dX3_shortYear_5 ⟨Nat.le_of_ble_eq_true rfl, Nat.le_of_ble_eq_true rfl⟩) hP hD hS hFc [0, 1, 2] [] rfl rfl (by decide) (by decide) (fun H locs hP hD hS => ?_)
  have hP : va_P (dC, dI) kcl [(h, .inr (3, [.int (rdPair f n ta 0 99).2, .int ah])), (ar, .inr (0, [.ref ab, .int (nI n)])), (ab, .inl (cB, 242, .inl f))] H := hP
  have hD : va_D A [(h, .inr (3, [.int (rdPair f n ta 0 99).2, .int ah])), (ar, .inr (0, [.ref ab, .int (nI n)])), (ab, .inl (cB, 242, .inl f))] := hD
  generalize e_5 : rdPair f n ta 0 99 = v_5 at hP hD ⊢
  have hP : va_P (dC, dI) kcl [(h, .inr (3, [.int v_5.2, .int ah])), (ar, .inr (0, [.ref ab, .int (nI n)])), (ab, .inl (cB, 242, .inl f))] H := hP
  have hD : va_D A [(h, .inr (3, [.int v_5.2, .int ah])), (ar, .inr (0, [.ref ab, .int (nI n)])), (ab, .inl (cB, 242, .inl f))] := hD
  refine lv_istore_n (lv' := [(2, .int v_5.1), (0, .ref h), (1, .ref ar)]) hx hb dX3_shortYear_8 rfl hl (by decide) rfl (fun ls hl => ?_)
  refine lv_iload_n hx hb dX3_shortYear_9 rfl (lv_at hl 0 rfl) ?_
  refine lv_iconst (v := (-1)) hx hb dX3_shortYear_10 (by decide) ?_
  refine lv_icmp_ne (tgt := 16) hx hb dX3_shortYear_11 (by decide) (fun c_11 => ?_) (fun c_11 => ?_)
  · refine lv_iload_n hx hb dX3_shortYear_16 rfl (lv_at hl 0 rfl) ?_
    refine lv_bipush (v := 50) hx hb dX3_shortYear_17 (by decide) ?_
    refine lv_icmp_ge (tgt := 30) hx hb dX3_shortYear_19 (by decide) (fun c_19 => ?_) (fun c_19 => ?_)
    · refine lv_sipush (v := 1900) hx hb dX3_shortYear_30 (by decide) ?_
      refine lv_iload_n hx hb dX3_shortYear_33 rfl (lv_at hl 0 rfl) ?_
      refine lv_iadd hx hb dX3_shortYear_34 ?_
      have hF9 : rdShort f n ta = (1900 + v_5.1, v_5.2) := by
        subst e_5
        first | (simp only [rdShort, if_neg c_11, if_pos c_19]; done) | rfl
      have hP9 : va_P (dC, dI) kcl [(h, .inr (3, [.int (rdShort f n ta).2, .int ah])), (ar, .inr (0, [.ref ab, .int (nI n)])), (ab, .inl (cB, 242, .inl f))] H := by
        try rw [hF9]
        exact hP.sub [0, 1, 2] rfl
      have hD9 : va_D A [(h, .inr (3, [.int (rdShort f n ta).2, .int ah])), (ar, .inr (0, [.ref ab, .int (nI n)])), (ab, .inl (cB, 242, .inl f))] := by
        try rw [hF9]
        exact hD.sub [0, 1, 2] (by decide) rfl
      have hv9 : 1900 + v_5.1 = (rdShort f n ta).1 := by
        try rw [hF9]
        try rfl
      exact kc_iret hx hb hr hlocks hv9 hP9 hD9 hS dX3_shortYear_35
    · refine lv_sipush (v := 2000) hx hb dX3_shortYear_22 (by decide) ?_
      refine lv_iload_n hx hb dX3_shortYear_25 rfl (lv_at hl 0 rfl) ?_
      refine lv_iadd hx hb dX3_shortYear_26 ?_
      refine lv_goto (tgt := 35) hx hb dX3_shortYear_27 (by decide) ?_
      have hF9 : rdShort f n ta = (2000 + v_5.1, v_5.2) := by
        subst e_5
        first | (simp only [rdShort, if_neg c_11, if_neg c_19]; done) | rfl
      have hP9 : va_P (dC, dI) kcl [(h, .inr (3, [.int (rdShort f n ta).2, .int ah])), (ar, .inr (0, [.ref ab, .int (nI n)])), (ab, .inl (cB, 242, .inl f))] H := by
        try rw [hF9]
        exact hP.sub [0, 1, 2] rfl
      have hD9 : va_D A [(h, .inr (3, [.int (rdShort f n ta).2, .int ah])), (ar, .inr (0, [.ref ab, .int (nI n)])), (ab, .inl (cB, 242, .inl f))] := by
        try rw [hF9]
        exact hD.sub [0, 1, 2] (by decide) rfl
      have hv9 : 2000 + v_5.1 = (rdShort f n ta).1 := by
        try rw [hF9]
        try rfl
      exact kc_iret hx hb hr hlocks hv9 hP9 hD9 hS dX3_shortYear_35
  · refine lv_iconst (v := (-1)) hx hb dX3_shortYear_14 (by decide) ?_
    have hF9 : rdShort f n ta = ((-1), v_5.2) := by
      subst e_5
      first | (simp only [rdShort, if_pos c_11]; done) | rfl
    have hP9 : va_P (dC, dI) kcl [(h, .inr (3, [.int (rdShort f n ta).2, .int ah])), (ar, .inr (0, [.ref ab, .int (nI n)])), (ab, .inl (cB, 242, .inl f))] H := by
      try rw [hF9]
      exact hP.sub [0, 1, 2] rfl
    have hD9 : va_D A [(h, .inr (3, [.int (rdShort f n ta).2, .int ah])), (ar, .inr (0, [.ref ab, .int (nI n)])), (ab, .inl (cB, 242, .inl f))] := by
      try rw [hF9]
      exact hD.sub [0, 1, 2] (by decide) rfl
    have hv9 : ((-1) : Int32) = (rdShort f n ta).1 := by
      try rw [hF9]
      try rfl
    exact kc_iret hx hb hr hlocks hv9 hP9 hD9 hS dX3_shortYear_15
def rdLong (f : Nat → Int32) (n : Nat) (ta : Int32) : Int32 × Int32 :=
  let v_5 := rdPair f n ta 0 99
  if v_5.1 = (-1) then
    ((-1), v_5.2)
  else
    let v_21 := rdPair f n v_5.2 0 99
    if v_21.1 = (-1) then
      ((-1), v_21.2)
    else
      ((v_5.1 * 100) + v_21.1, v_21.2)
set_option maxHeartbeats 4000000 in
set_option maxRecDepth 100000 in
theorem c_Rd_longYear (l : Launch) (dC : Nat → ClassId) (dI : Nat → Nat → Nat) (st sz : Nat) (h : Nat) (ar : Nat) (ab : Nat) (cB : ClassId) (f : Nat → Int32) (n : Nat) (ta : Int32) (ah : Int32) (hn : n ≤ 242) : Met l yX3_longYear wsX3_longYear ({ frames := 3, cells := 0, slots := 0, locals := 69 }) (kc_Pc (dC, dI) kcl st sz [.ref h, .ref ar] [(h, .inr (3, [.int ta, .int ah])), (ar, .inr (0, [.ref ab, .int (nI n)])), (ab, .inl (cB, 242, .inl f))] [(cB, .byte)]) (kc_Qi (dC, dI) kcl (rdLong f n ta).1 [(h, .inr (3, [.int (rdLong f n ta).2, .int ah])), (ar, .inr (0, [.ref ab, .int (nI n)])), (ab, .inl (cB, 242, .inl f))] (va_A [(h, .inr (3, [.int ta, .int ah])), (ar, .inr (0, [.ref ab, .int (nI n)])), (ab, .inl (cB, 242, .inl f))] sz)) 0 0 (va_A [(h, .inr (3, [.int ta, .int ah])), (ar, .inr (0, [.ref ab, .int (nI n)])), (ab, .inl (cB, 242, .inl f))] sz) := by
  refine kc_ofW (Qc := fun A => (kc_Qi (dC, dI) kcl (rdLong f n ta).1 [(h, .inr (3, [.int (rdLong f n ta).2, .int ah])), (ar, .inr (0, [.ref ab, .int (nI n)])), (ab, .inl (cB, 242, .inl f))] A)) (cc := cX3_longYear) (maxL := 4) (ret := (some .int)) (by decide) rfl (Nat.le_of_ble_eq_true rfl) ?_
  intro p e s m below meth c A ls Cx hA hG hK hP hD hS hl
  obtain ⟨hx, hb, hr, hml, hown, hts, hlocks, hnm⟩ := id Cx
  have hl : lv_has ls 4 [(0, .ref h), (1, .ref ar)] := hl
  refine lv_aload_n hx hb dX3_longYear_0 rfl (lv_at hl 0 rfl) ?_
  refine lv_aload_n hx hb dX3_longYear_1 rfl (lv_at hl 1 rfl) ?_
  refine lv_iconst (v := 0) hx hb dX3_longYear_2 (by decide) ?_
  refine lv_bipush (v := 99) hx hb dX3_longYear_3 (by decide) ?_
  have hPc := hP.sub (ws' := [(h, .inr (3, [.int ta, .int ah])), (ar, .inr (0, [.ref ab, .int (nI n)])), (ab, .inl (cB, 242, .inl f))]) [0, 1, 2] rfl
  have hDc := hD.sub (ws' := [(h, .inr (3, [.int ta, .int ah])), (ar, .inr (0, [.ref ab, .int (nI n)])), (ab, .inl (cB, 242, .inl f))]) [0, 1, 2] (by decide) rfl
  have hKc := hK.sub (tys' := [(cB, .byte)]) [0] rfl
  have hFc := va_free (wc := [(h, .inr (3, [.int ta, .int ah])), (ar, .inr (0, [.ref ab, .int (nI n)])), (ab, .inl (cB, 242, .inl f))]) hD hS hA [0, 1, 2] rfl
  refine kc_calli (val := (rdPair f n ta 0 99).1) (wr := []) (w1 := [(h, .inr (3, [.int (rdPair f n ta 0 99).2, .int ah])), (ar, .inr (0, [.ref ab, .int (nI n)])), (ab, .inl (cB, 242, .inl f))]) (va_runV (As := [.ref ar, .int 0, .int 99]) (rest := []) ⟨hx, hb, hml, hown, hts⟩ (c_Rd_readPair l dC dI st s.heap.size h ar ab cB f n ta ah 0 99 hn) (cwV 3 hts (kwV kwm_49 kwm_50 kwm_51 kwm_52 kwm_48) rfl rfl rfl (by decide +kernel) ⟨Nat.le_of_ble_eq_true rfl, Nat.le_of_ble_eq_true rfl⟩) ⟨kc_blind, va_recv hKc hPc (ci := 3) (q0 := 0) rfl rfl, kc_pre hG hS hFc hKc hPc hDc⟩ rfl rfl hl.1 rfl (lv_room (Nat.le_of_ble_eq_true rfl)) dX3_longYear_5 ⟨Nat.le_of_ble_eq_true rfl, Nat.le_of_ble_eq_true rfl⟩) hP hD hS hFc [0, 1, 2] [] rfl rfl (by decide) (by decide) (fun H locs hP hD hS => ?_)
  have hP : va_P (dC, dI) kcl [(h, .inr (3, [.int (rdPair f n ta 0 99).2, .int ah])), (ar, .inr (0, [.ref ab, .int (nI n)])), (ab, .inl (cB, 242, .inl f))] H := hP
  have hD : va_D A [(h, .inr (3, [.int (rdPair f n ta 0 99).2, .int ah])), (ar, .inr (0, [.ref ab, .int (nI n)])), (ab, .inl (cB, 242, .inl f))] := hD
  generalize e_5 : rdPair f n ta 0 99 = v_5 at hP hD ⊢
  have hP : va_P (dC, dI) kcl [(h, .inr (3, [.int v_5.2, .int ah])), (ar, .inr (0, [.ref ab, .int (nI n)])), (ab, .inl (cB, 242, .inl f))] H := hP
  have hD : va_D A [(h, .inr (3, [.int v_5.2, .int ah])), (ar, .inr (0, [.ref ab, .int (nI n)])), (ab, .inl (cB, 242, .inl f))] := hD
  refine lv_istore_n (lv' := [(2, .int v_5.1), (0, .ref h), (1, .ref ar)]) hx hb dX3_longYear_8 rfl hl (by decide) rfl (fun ls hl => ?_)
  refine lv_iload_n hx hb dX3_longYear_9 rfl (lv_at hl 0 rfl) ?_
  refine lv_iconst (v := (-1)) hx hb dX3_longYear_10 (by decide) ?_
  refine lv_icmp_ne (tgt := 16) hx hb dX3_longYear_11 (by decide) (fun c_11 => ?_) (fun c_11 => ?_)
  · refine lv_aload_n hx hb dX3_longYear_16 rfl (lv_at hl 1 rfl) ?_
    refine lv_aload_n hx hb dX3_longYear_17 rfl (lv_at hl 2 rfl) ?_
    refine lv_iconst (v := 0) hx hb dX3_longYear_18 (by decide) ?_
    refine lv_bipush (v := 99) hx hb dX3_longYear_19 (by decide) ?_
    have hPc := hP.sub (ws' := [(h, .inr (3, [.int v_5.2, .int ah])), (ar, .inr (0, [.ref ab, .int (nI n)])), (ab, .inl (cB, 242, .inl f))]) [0, 1, 2] rfl
    have hDc := hD.sub (ws' := [(h, .inr (3, [.int v_5.2, .int ah])), (ar, .inr (0, [.ref ab, .int (nI n)])), (ab, .inl (cB, 242, .inl f))]) [0, 1, 2] (by decide) rfl
    have hKc := hK.sub (tys' := [(cB, .byte)]) [0] rfl
    have hFc := va_free (wc := [(h, .inr (3, [.int v_5.2, .int ah])), (ar, .inr (0, [.ref ab, .int (nI n)])), (ab, .inl (cB, 242, .inl f))]) hD hS hA [0, 1, 2] rfl
    refine kc_calli (val := (rdPair f n v_5.2 0 99).1) (wr := []) (w1 := [(h, .inr (3, [.int (rdPair f n v_5.2 0 99).2, .int ah])), (ar, .inr (0, [.ref ab, .int (nI n)])), (ab, .inl (cB, 242, .inl f))]) (va_runV (As := [.ref ar, .int 0, .int 99]) (rest := []) ⟨hx, hb, hml, hown, hts⟩ (c_Rd_readPair l dC dI st H.size h ar ab cB f n v_5.2 ah 0 99 hn) (cwV 3 hts (kwV kwm_49 kwm_50 kwm_51 kwm_52 kwm_48) rfl rfl rfl (by decide +kernel) ⟨Nat.le_of_ble_eq_true rfl, Nat.le_of_ble_eq_true rfl⟩) ⟨kc_blind, va_recv hKc hPc (ci := 3) (q0 := 0) rfl rfl, kc_pre hG hS hFc hKc hPc hDc⟩ rfl rfl hl.1 rfl (lv_room (Nat.le_of_ble_eq_true rfl)) dX3_longYear_21 ⟨Nat.le_of_ble_eq_true rfl, Nat.le_of_ble_eq_true rfl⟩) hP hD hS hFc [0, 1, 2] [] rfl rfl (by decide) (by decide) (fun H locs hP hD hS => ?_)
    have hP : va_P (dC, dI) kcl [(h, .inr (3, [.int (rdPair f n v_5.2 0 99).2, .int ah])), (ar, .inr (0, [.ref ab, .int (nI n)])), (ab, .inl (cB, 242, .inl f))] H := hP
    have hD : va_D A [(h, .inr (3, [.int (rdPair f n v_5.2 0 99).2, .int ah])), (ar, .inr (0, [.ref ab, .int (nI n)])), (ab, .inl (cB, 242, .inl f))] := hD
    generalize e_21 : rdPair f n v_5.2 0 99 = v_21 at hP hD ⊢
    have hP : va_P (dC, dI) kcl [(h, .inr (3, [.int v_21.2, .int ah])), (ar, .inr (0, [.ref ab, .int (nI n)])), (ab, .inl (cB, 242, .inl f))] H := hP
    have hD : va_D A [(h, .inr (3, [.int v_21.2, .int ah])), (ar, .inr (0, [.ref ab, .int (nI n)])), (ab, .inl (cB, 242, .inl f))] := hD
    refine lv_istore_n (lv' := [(3, .int v_21.1), (2, .int v_5.1), (0, .ref h), (1, .ref ar)]) hx hb dX3_longYear_24 rfl hl (by decide) rfl (fun ls hl => ?_)
    refine lv_iload_n hx hb dX3_longYear_25 rfl (lv_at hl 0 rfl) ?_
    refine lv_iconst (v := (-1)) hx hb dX3_longYear_26 (by decide) ?_
    refine lv_icmp_ne (tgt := 34) hx hb dX3_longYear_27 (by decide) (fun c_27 => ?_) (fun c_27 => ?_)
    · refine lv_iload_n hx hb dX3_longYear_34 rfl (lv_at hl 1 rfl) ?_
      refine lv_bipush (v := 100) hx hb dX3_longYear_35 (by decide) ?_
      refine lv_imul hx hb dX3_longYear_37 ?_
      refine lv_iload_n hx hb dX3_longYear_38 rfl (lv_at hl 0 rfl) ?_
      refine lv_iadd hx hb dX3_longYear_39 ?_
      have hF9 : rdLong f n ta = ((v_5.1 * 100) + v_21.1, v_21.2) := by
        subst e_21
        subst e_5
        first | (simp only [rdLong, if_neg c_11, if_neg c_27]; done) | rfl
      have hP9 : va_P (dC, dI) kcl [(h, .inr (3, [.int (rdLong f n ta).2, .int ah])), (ar, .inr (0, [.ref ab, .int (nI n)])), (ab, .inl (cB, 242, .inl f))] H := by
        try rw [hF9]
        exact hP.sub [0, 1, 2] rfl
      have hD9 : va_D A [(h, .inr (3, [.int (rdLong f n ta).2, .int ah])), (ar, .inr (0, [.ref ab, .int (nI n)])), (ab, .inl (cB, 242, .inl f))] := by
        try rw [hF9]
        exact hD.sub [0, 1, 2] (by decide) rfl
      have hv9 : (v_5.1 * 100) + v_21.1 = (rdLong f n ta).1 := by
        try rw [hF9]
        try rfl
      exact kc_iret hx hb hr hlocks hv9 hP9 hD9 hS dX3_longYear_40
    · refine lv_iconst (v := (-1)) hx hb dX3_longYear_30 (by decide) ?_
      refine lv_goto (tgt := 40) hx hb dX3_longYear_31 (by decide) ?_
      have hF9 : rdLong f n ta = ((-1), v_21.2) := by
        subst e_21
        subst e_5
        first | (simp only [rdLong, if_neg c_11, if_pos c_27]; done) | rfl
      have hP9 : va_P (dC, dI) kcl [(h, .inr (3, [.int (rdLong f n ta).2, .int ah])), (ar, .inr (0, [.ref ab, .int (nI n)])), (ab, .inl (cB, 242, .inl f))] H := by
        try rw [hF9]
        exact hP.sub [0, 1, 2] rfl
      have hD9 : va_D A [(h, .inr (3, [.int (rdLong f n ta).2, .int ah])), (ar, .inr (0, [.ref ab, .int (nI n)])), (ab, .inl (cB, 242, .inl f))] := by
        try rw [hF9]
        exact hD.sub [0, 1, 2] (by decide) rfl
      have hv9 : ((-1) : Int32) = (rdLong f n ta).1 := by
        try rw [hF9]
        try rfl
      exact kc_iret hx hb hr hlocks hv9 hP9 hD9 hS dX3_longYear_40
  · refine lv_iconst (v := (-1)) hx hb dX3_longYear_14 (by decide) ?_
    have hF9 : rdLong f n ta = ((-1), v_5.2) := by
      subst e_5
      first | (simp only [rdLong, if_pos c_11]; done) | rfl
    have hP9 : va_P (dC, dI) kcl [(h, .inr (3, [.int (rdLong f n ta).2, .int ah])), (ar, .inr (0, [.ref ab, .int (nI n)])), (ab, .inl (cB, 242, .inl f))] H := by
      try rw [hF9]
      exact hP.sub [0, 1, 2] rfl
    have hD9 : va_D A [(h, .inr (3, [.int (rdLong f n ta).2, .int ah])), (ar, .inr (0, [.ref ab, .int (nI n)])), (ab, .inl (cB, 242, .inl f))] := by
      try rw [hF9]
      exact hD.sub [0, 1, 2] (by decide) rfl
    have hv9 : ((-1) : Int32) = (rdLong f n ta).1 := by
      try rw [hF9]
      try rfl
    exact kc_iret hx hb hr hlocks hv9 hP9 hD9 hS dX3_longYear_15
def rdDate (f : Nat → Int32) (n : Nat) (kind ta mo d : Int32) : Bool × Int32 × Int32 × Int32 × Int32 :=
  if kind = 0 then
    let v_7 := rdShort f n ta
    if v_7.1 = (-1) then
      (false, v_7.2, v_7.1, mo, d)
    else
      let v_37 := rdPair f n v_7.2 1 12
      if v_37.1 = (-1) then
        (false, v_37.2, v_7.1, v_37.1, d)
      else
        let v_68 := rdPair f n v_37.2 1 (daysM v_7.1 v_37.1)
        if v_68.1 = (-1) then
          (false, v_68.2, v_7.1, v_37.1, v_68.1)
        else
          (true, v_68.2, v_7.1, v_37.1, v_68.1)
  else
    let v_15 := rdLong f n ta
    if v_15.1 = (-1) then
      (false, v_15.2, v_15.1, mo, d)
    else
      let v_37 := rdPair f n v_15.2 1 12
      if v_37.1 = (-1) then
        (false, v_37.2, v_15.1, v_37.1, d)
      else
        let v_68 := rdPair f n v_37.2 1 (daysM v_15.1 v_37.1)
        if v_68.1 = (-1) then
          (false, v_68.2, v_15.1, v_37.1, v_68.1)
        else
          (true, v_68.2, v_15.1, v_37.1, v_68.1)
set_option maxHeartbeats 4000000 in
set_option maxRecDepth 100000 in
theorem c_Rd_readDate (l : Launch) (dC : Nat → ClassId) (dI : Nat → Nat → Nat) (st sz : Nat) (h : Nat) (ar : Nat) (ab : Nat) (cB : ClassId) (f : Nat → Int32) (n : Nat) (ta : Int32) (ah : Int32) (hm : Nat) (y : Int32) (mo : Int32) (d : Int32) (hh : Int32) (mi : Int32) (ss : Int32) (hp : Nat) (k : Nat) (kind : Int32) (hn : n ≤ 242) : Met l yX3_readDate wsX3_readDate ({ frames := 4, cells := 0, slots := 0, locals := 92 }) (kc_Pc (dC, dI) kcl st sz [.ref h, .ref ar, .int kind, .ref hm] [(h, .inr (3, [.int ta, .int ah])), (ar, .inr (0, [.ref ab, .int (nI n)])), (ab, .inl (cB, 242, .inl f)), (hm, .inr (2, [.int y, .int mo, .int d, .int hh, .int mi, .int ss, .ref hp, .int (nI k)]))] [(cB, .byte)]) (kc_Qi (dC, dI) kcl (bI (rdDate f n kind ta mo d).1) [(h, .inr (3, [.int (rdDate f n kind ta mo d).2.1, .int ah])), (ar, .inr (0, [.ref ab, .int (nI n)])), (ab, .inl (cB, 242, .inl f)), (hm, .inr (2, [.int (rdDate f n kind ta mo d).2.2.1, .int (rdDate f n kind ta mo d).2.2.2.1, .int (rdDate f n kind ta mo d).2.2.2.2, .int hh, .int mi, .int ss, .ref hp, .int (nI k)]))] (va_A [(h, .inr (3, [.int ta, .int ah])), (ar, .inr (0, [.ref ab, .int (nI n)])), (ab, .inl (cB, 242, .inl f)), (hm, .inr (2, [.int y, .int mo, .int d, .int hh, .int mi, .int ss, .ref hp, .int (nI k)]))] sz)) 0 0 (va_A [(h, .inr (3, [.int ta, .int ah])), (ar, .inr (0, [.ref ab, .int (nI n)])), (ab, .inl (cB, 242, .inl f)), (hm, .inr (2, [.int y, .int mo, .int d, .int hh, .int mi, .int ss, .ref hp, .int (nI k)]))] sz) := by
  refine kc_ofW (Qc := fun A => (kc_Qi (dC, dI) kcl (bI (rdDate f n kind ta mo d).1) [(h, .inr (3, [.int (rdDate f n kind ta mo d).2.1, .int ah])), (ar, .inr (0, [.ref ab, .int (nI n)])), (ab, .inl (cB, 242, .inl f)), (hm, .inr (2, [.int (rdDate f n kind ta mo d).2.2.1, .int (rdDate f n kind ta mo d).2.2.2.1, .int (rdDate f n kind ta mo d).2.2.2.2, .int hh, .int mi, .int ss, .ref hp, .int (nI k)]))] A)) (cc := cX3_readDate) (maxL := 4) (ret := (some .boolean)) (by decide) rfl (Nat.le_of_ble_eq_true rfl) ?_
  intro p e s m below meth c A ls Cx hA hG hK hP hD hS hl
  obtain ⟨hx, hb, hr, hml, hown, hts, hlocks, hnm⟩ := id Cx
  have hl : lv_has ls 4 [(0, .ref h), (1, .ref ar), (2, .int kind), (3, .ref hm)] := hl
  refine lv_aload_n hx hb dX3_readDate_0 rfl (lv_at hl 3 rfl) ?_
  refine lv_iload_n hx hb dX3_readDate_1 rfl (lv_at hl 2 rfl) ?_
  refine lv_if_ne (tgt := 13) hx hb dX3_readDate_2 (by decide) (fun c_2 => ?_) (fun c_2 => ?_)
  · refine lv_aload_n hx hb dX3_readDate_13 rfl (lv_at hl 0 rfl) ?_
    refine lv_aload_n hx hb dX3_readDate_14 rfl (lv_at hl 1 rfl) ?_
    have hPc := hP.sub (ws' := [(h, .inr (3, [.int ta, .int ah])), (ar, .inr (0, [.ref ab, .int (nI n)])), (ab, .inl (cB, 242, .inl f))]) [0, 1, 2] rfl
    have hDc := hD.sub (ws' := [(h, .inr (3, [.int ta, .int ah])), (ar, .inr (0, [.ref ab, .int (nI n)])), (ab, .inl (cB, 242, .inl f))]) [0, 1, 2] (by decide) rfl
    have hKc := hK.sub (tys' := [(cB, .byte)]) [0] rfl
    have hFc := va_free (wc := [(h, .inr (3, [.int ta, .int ah])), (ar, .inr (0, [.ref ab, .int (nI n)])), (ab, .inl (cB, 242, .inl f))]) hD hS hA [0, 1, 2] rfl
    refine kc_calli (val := (rdLong f n ta).1) (wr := [(hm, .inr (2, [.int y, .int mo, .int d, .int hh, .int mi, .int ss, .ref hp, .int (nI k)]))]) (w1 := [(h, .inr (3, [.int (rdLong f n ta).2, .int ah])), (ar, .inr (0, [.ref ab, .int (nI n)])), (ab, .inl (cB, 242, .inl f))]) (va_runV (As := [.ref ar]) (rest := [.ref hm]) ⟨hx, hb, hml, hown, hts⟩ (c_Rd_longYear l dC dI st s.heap.size h ar ab cB f n ta ah hn) (cwV 1 hts (kwV kwm_54 kwm_55 kwm_56 kwm_52 kwm_53) rfl rfl rfl (by decide +kernel) ⟨Nat.le_of_ble_eq_true rfl, Nat.le_of_ble_eq_true rfl⟩) ⟨kc_blind, va_recv hKc hPc (ci := 3) (q0 := 0) rfl rfl, kc_pre hG hS hFc hKc hPc hDc⟩ rfl rfl hl.1 rfl (lv_room (Nat.le_of_ble_eq_true rfl)) dX3_readDate_15 ⟨Nat.le_of_ble_eq_true rfl, Nat.le_of_ble_eq_true rfl⟩) hP hD hS hFc [0, 1, 2] [3] rfl rfl (by decide) (by decide) (fun H locs hP hD hS => ?_)
    have hP : va_P (dC, dI) kcl [(hm, .inr (2, [.int y, .int mo, .int d, .int hh, .int mi, .int ss, .ref hp, .int (nI k)])), (h, .inr (3, [.int (rdLong f n ta).2, .int ah])), (ar, .inr (0, [.ref ab, .int (nI n)])), (ab, .inl (cB, 242, .inl f))] H := hP
    have hD : va_D A [(hm, .inr (2, [.int y, .int mo, .int d, .int hh, .int mi, .int ss, .ref hp, .int (nI k)])), (h, .inr (3, [.int (rdLong f n ta).2, .int ah])), (ar, .inr (0, [.ref ab, .int (nI n)])), (ab, .inl (cB, 242, .inl f))] := hD
    generalize e_15 : rdLong f n ta = v_15 at hP hD ⊢
    have hP : va_P (dC, dI) kcl [(hm, .inr (2, [.int y, .int mo, .int d, .int hh, .int mi, .int ss, .ref hp, .int (nI k)])), (h, .inr (3, [.int v_15.2, .int ah])), (ar, .inr (0, [.ref ab, .int (nI n)])), (ab, .inl (cB, 242, .inl f))] H := hP
    have hD : va_D A [(hm, .inr (2, [.int y, .int mo, .int d, .int hh, .int mi, .int ss, .ref hp, .int (nI k)])), (h, .inr (3, [.int v_15.2, .int ah])), (ar, .inr (0, [.ref ab, .int (nI n)])), (ab, .inl (cB, 242, .inl f))] := hD
    refine va_putN (D := (dC, dI)) (ci := 2) (v := .int v_15.1) (ty := .int) (C := RX2) (T := TX2) (N := 8) hx hb hts kin_2 tyX2 tyX2_ok nmX2 hown hK hP hD hS 0 rfl rfl 0 (by decide) (kg_use hG (List.mem_of_getElem? (i := 6) (a := Cond.fieldLinkNest RX3 43 "ClockTexts$Moment" "year" "I" "ClockTexts") rfl)) (fun _ h9 => h9) rfl (by decide +kernel) rfl rfl (Nat.le_of_ble_eq_true rfl) dX3_readDate_18 (fun H locs hP hD hS => ?_)
    have hP : va_P (dC, dI) kcl [(hm, .inr (2, [.int v_15.1, .int mo, .int d, .int hh, .int mi, .int ss, .ref hp, .int (nI k)])), (h, .inr (3, [.int v_15.2, .int ah])), (ar, .inr (0, [.ref ab, .int (nI n)])), (ab, .inl (cB, 242, .inl f))] H := hP
    have hD : va_D A [(hm, .inr (2, [.int v_15.1, .int mo, .int d, .int hh, .int mi, .int ss, .ref hp, .int (nI k)])), (h, .inr (3, [.int v_15.2, .int ah])), (ar, .inr (0, [.ref ab, .int (nI n)])), (ab, .inl (cB, 242, .inl f))] := hD
    refine lv_aload_n hx hb dX3_readDate_21 rfl (lv_at hl 3 rfl) ?_
    refine va_getN (D := (dC, dI)) (ci := 2) (v := .int v_15.1) (C := RX2) (T := TX2) (N := 8) hx hb hts kin_2 hown hK hP 0 rfl rfl 0 (by decide) (kg_use hG (List.mem_of_getElem? (i := 6) (a := Cond.fieldLinkNest RX3 43 "ClockTexts$Moment" "year" "I" "ClockTexts") rfl)) (fun _ h9 => h9) rfl dX3_readDate_22 ?_
    refine lv_iconst (v := (-1)) hx hb dX3_readDate_25 (by decide) ?_
    refine lv_icmp_ne (tgt := 31) hx hb dX3_readDate_26 (by decide) (fun c_26 => ?_) (fun c_26 => ?_)
    · refine lv_aload_n hx hb dX3_readDate_31 rfl (lv_at hl 3 rfl) ?_
      refine lv_aload_n hx hb dX3_readDate_32 rfl (lv_at hl 0 rfl) ?_
      refine lv_aload_n hx hb dX3_readDate_33 rfl (lv_at hl 1 rfl) ?_
      refine lv_iconst (v := 1) hx hb dX3_readDate_34 (by decide) ?_
      refine lv_bipush (v := 12) hx hb dX3_readDate_35 (by decide) ?_
      have hPc := hP.sub (ws' := [(h, .inr (3, [.int v_15.2, .int ah])), (ar, .inr (0, [.ref ab, .int (nI n)])), (ab, .inl (cB, 242, .inl f))]) [1, 2, 3] rfl
      have hDc := hD.sub (ws' := [(h, .inr (3, [.int v_15.2, .int ah])), (ar, .inr (0, [.ref ab, .int (nI n)])), (ab, .inl (cB, 242, .inl f))]) [1, 2, 3] (by decide) rfl
      have hKc := hK.sub (tys' := [(cB, .byte)]) [0] rfl
      have hFc := va_free (wc := [(h, .inr (3, [.int v_15.2, .int ah])), (ar, .inr (0, [.ref ab, .int (nI n)])), (ab, .inl (cB, 242, .inl f))]) hD hS hA [1, 2, 3] rfl
      refine kc_calli (val := (rdPair f n v_15.2 1 12).1) (wr := [(hm, .inr (2, [.int v_15.1, .int mo, .int d, .int hh, .int mi, .int ss, .ref hp, .int (nI k)]))]) (w1 := [(h, .inr (3, [.int (rdPair f n v_15.2 1 12).2, .int ah])), (ar, .inr (0, [.ref ab, .int (nI n)])), (ab, .inl (cB, 242, .inl f))]) (va_runV (As := [.ref ar, .int 1, .int 12]) (rest := [.ref hm]) ⟨hx, hb, hml, hown, hts⟩ (c_Rd_readPair l dC dI st H.size h ar ab cB f n v_15.2 ah 1 12 hn) (cwV 3 hts (kwV kwm_49 kwm_50 kwm_51 kwm_52 kwm_48) rfl rfl rfl (by decide +kernel) ⟨Nat.le_of_ble_eq_true rfl, Nat.le_of_ble_eq_true rfl⟩) ⟨kc_blind, va_recv hKc hPc (ci := 3) (q0 := 0) rfl rfl, kc_pre hG hS hFc hKc hPc hDc⟩ rfl rfl hl.1 rfl (lv_room (Nat.le_of_ble_eq_true rfl)) dX3_readDate_37 ⟨Nat.le_of_ble_eq_true rfl, Nat.le_of_ble_eq_true rfl⟩) hP hD hS hFc [1, 2, 3] [0] rfl rfl (by decide) (by decide) (fun H locs hP hD hS => ?_)
      have hP : va_P (dC, dI) kcl [(hm, .inr (2, [.int v_15.1, .int mo, .int d, .int hh, .int mi, .int ss, .ref hp, .int (nI k)])), (h, .inr (3, [.int (rdPair f n v_15.2 1 12).2, .int ah])), (ar, .inr (0, [.ref ab, .int (nI n)])), (ab, .inl (cB, 242, .inl f))] H := hP
      have hD : va_D A [(hm, .inr (2, [.int v_15.1, .int mo, .int d, .int hh, .int mi, .int ss, .ref hp, .int (nI k)])), (h, .inr (3, [.int (rdPair f n v_15.2 1 12).2, .int ah])), (ar, .inr (0, [.ref ab, .int (nI n)])), (ab, .inl (cB, 242, .inl f))] := hD
      generalize e_37 : rdPair f n v_15.2 1 12 = v_37 at hP hD ⊢
      have hP : va_P (dC, dI) kcl [(hm, .inr (2, [.int v_15.1, .int mo, .int d, .int hh, .int mi, .int ss, .ref hp, .int (nI k)])), (h, .inr (3, [.int v_37.2, .int ah])), (ar, .inr (0, [.ref ab, .int (nI n)])), (ab, .inl (cB, 242, .inl f))] H := hP
      have hD : va_D A [(hm, .inr (2, [.int v_15.1, .int mo, .int d, .int hh, .int mi, .int ss, .ref hp, .int (nI k)])), (h, .inr (3, [.int v_37.2, .int ah])), (ar, .inr (0, [.ref ab, .int (nI n)])), (ab, .inl (cB, 242, .inl f))] := hD
      refine va_putN (D := (dC, dI)) (ci := 2) (v := .int v_37.1) (ty := .int) (C := RX2) (T := TX2) (N := 8) hx hb hts kin_2 tyX2 tyX2_ok nmX2 hown hK hP hD hS 0 rfl rfl 1 (by decide) (kg_use hG (List.mem_of_getElem? (i := 7) (a := Cond.fieldLinkNest RX3 61 "ClockTexts$Moment" "month" "I" "ClockTexts") rfl)) (fun _ h9 => h9) rfl (by decide +kernel) rfl rfl (Nat.le_of_ble_eq_true rfl) dX3_readDate_40 (fun H locs hP hD hS => ?_)
      have hP : va_P (dC, dI) kcl [(hm, .inr (2, [.int v_15.1, .int v_37.1, .int d, .int hh, .int mi, .int ss, .ref hp, .int (nI k)])), (h, .inr (3, [.int v_37.2, .int ah])), (ar, .inr (0, [.ref ab, .int (nI n)])), (ab, .inl (cB, 242, .inl f))] H := hP
      have hD : va_D A [(hm, .inr (2, [.int v_15.1, .int v_37.1, .int d, .int hh, .int mi, .int ss, .ref hp, .int (nI k)])), (h, .inr (3, [.int v_37.2, .int ah])), (ar, .inr (0, [.ref ab, .int (nI n)])), (ab, .inl (cB, 242, .inl f))] := hD
      refine lv_aload_n hx hb dX3_readDate_43 rfl (lv_at hl 3 rfl) ?_
      refine va_getN (D := (dC, dI)) (ci := 2) (v := .int v_37.1) (C := RX2) (T := TX2) (N := 8) hx hb hts kin_2 hown hK hP 0 rfl rfl 1 (by decide) (kg_use hG (List.mem_of_getElem? (i := 7) (a := Cond.fieldLinkNest RX3 61 "ClockTexts$Moment" "month" "I" "ClockTexts") rfl)) (fun _ h9 => h9) rfl dX3_readDate_44 ?_
      refine lv_iconst (v := (-1)) hx hb dX3_readDate_47 (by decide) ?_
      refine lv_icmp_ne (tgt := 53) hx hb dX3_readDate_48 (by decide) (fun c_48 => ?_) (fun c_48 => ?_)
      · refine lv_aload_n hx hb dX3_readDate_53 rfl (lv_at hl 3 rfl) ?_
        refine lv_aload_n hx hb dX3_readDate_54 rfl (lv_at hl 0 rfl) ?_
        refine lv_aload_n hx hb dX3_readDate_55 rfl (lv_at hl 1 rfl) ?_
        refine lv_iconst (v := 1) hx hb dX3_readDate_56 (by decide) ?_
        refine lv_aload_n hx hb dX3_readDate_57 rfl (lv_at hl 3 rfl) ?_
        refine va_getN (D := (dC, dI)) (ci := 2) (v := .int v_15.1) (C := RX2) (T := TX2) (N := 8) hx hb hts kin_2 hown hK hP 0 rfl rfl 0 (by decide) (kg_use hG (List.mem_of_getElem? (i := 6) (a := Cond.fieldLinkNest RX3 43 "ClockTexts$Moment" "year" "I" "ClockTexts") rfl)) (fun _ h9 => h9) rfl dX3_readDate_58 ?_
        refine lv_aload_n hx hb dX3_readDate_61 rfl (lv_at hl 3 rfl) ?_
        refine va_getN (D := (dC, dI)) (ci := 2) (v := .int v_37.1) (C := RX2) (T := TX2) (N := 8) hx hb hts kin_2 hown hK hP 0 rfl rfl 1 (by decide) (kg_use hG (List.mem_of_getElem? (i := 7) (a := Cond.fieldLinkNest RX3 61 "ClockTexts$Moment" "month" "I" "ClockTexts") rfl)) (fun _ h9 => h9) rfl dX3_readDate_62 ?_
        have hPc := hP.sub (ws' := []) [] rfl
        have hDc := hD.sub (ws' := []) [] (by decide) rfl
        have hKc := hK.sub (tys' := []) [] rfl
        have hFc := va_free (wc := []) hD hS hA [] rfl
        refine kc_callSi (val := daysM v_15.1 v_37.1) (va_runSN (As := [.int v_15.1, .int v_37.1]) (rest := [.int 1, .ref ar, .ref h, .ref hm]) ⟨hx, hb, hml, hown, hts⟩ (c_CT_daysOfMonth l dC dI st H.size v_15.1 v_37.1 ) ⟨va_cnB 2 hts (kwC kwm_16) rfl rfl rfl (kg_nest hG (List.mem_of_getElem? (i := 8) (a := Cond.methodLinkNest RX3 64 yX4_daysOfMonth "ClockTexts") rfl)) (hts _ (kcm kwm_14)) (by decide +kernel) ⟨Nat.le_of_ble_eq_true rfl, Nat.le_of_ble_eq_true rfl⟩, hts _ (kcm kwm_37), trivial⟩ ⟨kc_blind, kc_pre hG hS hFc hKc hPc hDc⟩ rfl rfl hl.1 rfl (lv_room (Nat.le_of_ble_eq_true rfl)) dX3_readDate_65 ⟨Nat.le_of_ble_eq_true rfl, Nat.le_of_ble_eq_true rfl⟩) ?_
        have hPc := hP.sub (ws' := [(h, .inr (3, [.int v_37.2, .int ah])), (ar, .inr (0, [.ref ab, .int (nI n)])), (ab, .inl (cB, 242, .inl f))]) [1, 2, 3] rfl
        have hDc := hD.sub (ws' := [(h, .inr (3, [.int v_37.2, .int ah])), (ar, .inr (0, [.ref ab, .int (nI n)])), (ab, .inl (cB, 242, .inl f))]) [1, 2, 3] (by decide) rfl
        have hKc := hK.sub (tys' := [(cB, .byte)]) [0] rfl
        have hFc := va_free (wc := [(h, .inr (3, [.int v_37.2, .int ah])), (ar, .inr (0, [.ref ab, .int (nI n)])), (ab, .inl (cB, 242, .inl f))]) hD hS hA [1, 2, 3] rfl
        refine kc_calli (val := (rdPair f n v_37.2 1 (daysM v_15.1 v_37.1)).1) (wr := [(hm, .inr (2, [.int v_15.1, .int v_37.1, .int d, .int hh, .int mi, .int ss, .ref hp, .int (nI k)]))]) (w1 := [(h, .inr (3, [.int (rdPair f n v_37.2 1 (daysM v_15.1 v_37.1)).2, .int ah])), (ar, .inr (0, [.ref ab, .int (nI n)])), (ab, .inl (cB, 242, .inl f))]) (va_runV (As := [.ref ar, .int 1, .int (daysM v_15.1 v_37.1)]) (rest := [.ref hm]) ⟨hx, hb, hml, hown, hts⟩ (c_Rd_readPair l dC dI st H.size h ar ab cB f n v_37.2 ah 1 (daysM v_15.1 v_37.1) hn) (cwV 3 hts (kwV kwm_49 kwm_50 kwm_51 kwm_52 kwm_48) rfl rfl rfl (by decide +kernel) ⟨Nat.le_of_ble_eq_true rfl, Nat.le_of_ble_eq_true rfl⟩) ⟨kc_blind, va_recv hKc hPc (ci := 3) (q0 := 0) rfl rfl, kc_pre hG hS hFc hKc hPc hDc⟩ rfl rfl hl.1 rfl (lv_room (Nat.le_of_ble_eq_true rfl)) dX3_readDate_68 ⟨Nat.le_of_ble_eq_true rfl, Nat.le_of_ble_eq_true rfl⟩) hP hD hS hFc [1, 2, 3] [0] rfl rfl (by decide) (by decide) (fun H locs hP hD hS => ?_)
        have hP : va_P (dC, dI) kcl [(hm, .inr (2, [.int v_15.1, .int v_37.1, .int d, .int hh, .int mi, .int ss, .ref hp, .int (nI k)])), (h, .inr (3, [.int (rdPair f n v_37.2 1 (daysM v_15.1 v_37.1)).2, .int ah])), (ar, .inr (0, [.ref ab, .int (nI n)])), (ab, .inl (cB, 242, .inl f))] H := hP
        have hD : va_D A [(hm, .inr (2, [.int v_15.1, .int v_37.1, .int d, .int hh, .int mi, .int ss, .ref hp, .int (nI k)])), (h, .inr (3, [.int (rdPair f n v_37.2 1 (daysM v_15.1 v_37.1)).2, .int ah])), (ar, .inr (0, [.ref ab, .int (nI n)])), (ab, .inl (cB, 242, .inl f))] := hD
        generalize e_68 : rdPair f n v_37.2 1 (daysM v_15.1 v_37.1) = v_68 at hP hD ⊢
        have hP : va_P (dC, dI) kcl [(hm, .inr (2, [.int v_15.1, .int v_37.1, .int d, .int hh, .int mi, .int ss, .ref hp, .int (nI k)])), (h, .inr (3, [.int v_68.2, .int ah])), (ar, .inr (0, [.ref ab, .int (nI n)])), (ab, .inl (cB, 242, .inl f))] H := hP
        have hD : va_D A [(hm, .inr (2, [.int v_15.1, .int v_37.1, .int d, .int hh, .int mi, .int ss, .ref hp, .int (nI k)])), (h, .inr (3, [.int v_68.2, .int ah])), (ar, .inr (0, [.ref ab, .int (nI n)])), (ab, .inl (cB, 242, .inl f))] := hD
        refine va_putN (D := (dC, dI)) (ci := 2) (v := .int v_68.1) (ty := .int) (C := RX2) (T := TX2) (N := 8) hx hb hts kin_2 tyX2 tyX2_ok nmX2 hown hK hP hD hS 0 rfl rfl 2 (by decide) (kg_use hG (List.mem_of_getElem? (i := 9) (a := Cond.fieldLinkNest RX3 68 "ClockTexts$Moment" "day" "I" "ClockTexts") rfl)) (fun _ h9 => h9) rfl (by decide +kernel) rfl rfl (Nat.le_of_ble_eq_true rfl) dX3_readDate_71 (fun H locs hP hD hS => ?_)
        have hP : va_P (dC, dI) kcl [(hm, .inr (2, [.int v_15.1, .int v_37.1, .int v_68.1, .int hh, .int mi, .int ss, .ref hp, .int (nI k)])), (h, .inr (3, [.int v_68.2, .int ah])), (ar, .inr (0, [.ref ab, .int (nI n)])), (ab, .inl (cB, 242, .inl f))] H := hP
        have hD : va_D A [(hm, .inr (2, [.int v_15.1, .int v_37.1, .int v_68.1, .int hh, .int mi, .int ss, .ref hp, .int (nI k)])), (h, .inr (3, [.int v_68.2, .int ah])), (ar, .inr (0, [.ref ab, .int (nI n)])), (ab, .inl (cB, 242, .inl f))] := hD
        refine lv_aload_n hx hb dX3_readDate_74 rfl (lv_at hl 3 rfl) ?_
        refine va_getN (D := (dC, dI)) (ci := 2) (v := .int v_68.1) (C := RX2) (T := TX2) (N := 8) hx hb hts kin_2 hown hK hP 0 rfl rfl 2 (by decide) (kg_use hG (List.mem_of_getElem? (i := 9) (a := Cond.fieldLinkNest RX3 68 "ClockTexts$Moment" "day" "I" "ClockTexts") rfl)) (fun _ h9 => h9) rfl dX3_readDate_75 ?_
        refine lv_iconst (v := (-1)) hx hb dX3_readDate_78 (by decide) ?_
        refine lv_icmp_eq (tgt := 86) hx hb dX3_readDate_79 (by decide) (fun c_79 => ?_) (fun c_79 => ?_)
        · refine lv_iconst (v := 0) hx hb dX3_readDate_86 (by decide) ?_
          have hF9 : rdDate f n kind ta mo d = (false, v_68.2, v_15.1, v_37.1, v_68.1) := by
            subst e_68
            subst e_37
            subst e_15
            first | (simp only [rdDate, if_neg c_2, if_neg c_26, if_neg c_48, if_pos c_79]; done) | rfl
          have hP9 : va_P (dC, dI) kcl [(h, .inr (3, [.int (rdDate f n kind ta mo d).2.1, .int ah])), (ar, .inr (0, [.ref ab, .int (nI n)])), (ab, .inl (cB, 242, .inl f)), (hm, .inr (2, [.int (rdDate f n kind ta mo d).2.2.1, .int (rdDate f n kind ta mo d).2.2.2.1, .int (rdDate f n kind ta mo d).2.2.2.2, .int hh, .int mi, .int ss, .ref hp, .int (nI k)]))] H := by
            try rw [hF9]
            exact hP.sub [1, 2, 3, 0] rfl
          have hD9 : va_D A [(h, .inr (3, [.int (rdDate f n kind ta mo d).2.1, .int ah])), (ar, .inr (0, [.ref ab, .int (nI n)])), (ab, .inl (cB, 242, .inl f)), (hm, .inr (2, [.int (rdDate f n kind ta mo d).2.2.1, .int (rdDate f n kind ta mo d).2.2.2.1, .int (rdDate f n kind ta mo d).2.2.2.2, .int hh, .int mi, .int ss, .ref hp, .int (nI k)]))] := by
            try rw [hF9]
            exact hD.sub [1, 2, 3, 0] (by decide) rfl
          have hv9 : (0 : Int32) = bI (rdDate f n kind ta mo d).1 := by
            try rw [hF9]
            try rfl
          exact kc_zret hx hb hr hlocks hv9 (bI_nar hv9) hP9 hD9 hS dX3_readDate_87
        · refine lv_iconst (v := 1) hx hb dX3_readDate_82 (by decide) ?_
          refine lv_goto (tgt := 87) hx hb dX3_readDate_83 (by decide) ?_
          have hF9 : rdDate f n kind ta mo d = (true, v_68.2, v_15.1, v_37.1, v_68.1) := by
            subst e_68
            subst e_37
            subst e_15
            first | (simp only [rdDate, if_neg c_2, if_neg c_26, if_neg c_48, if_neg c_79]; done) | rfl
          have hP9 : va_P (dC, dI) kcl [(h, .inr (3, [.int (rdDate f n kind ta mo d).2.1, .int ah])), (ar, .inr (0, [.ref ab, .int (nI n)])), (ab, .inl (cB, 242, .inl f)), (hm, .inr (2, [.int (rdDate f n kind ta mo d).2.2.1, .int (rdDate f n kind ta mo d).2.2.2.1, .int (rdDate f n kind ta mo d).2.2.2.2, .int hh, .int mi, .int ss, .ref hp, .int (nI k)]))] H := by
            try rw [hF9]
            exact hP.sub [1, 2, 3, 0] rfl
          have hD9 : va_D A [(h, .inr (3, [.int (rdDate f n kind ta mo d).2.1, .int ah])), (ar, .inr (0, [.ref ab, .int (nI n)])), (ab, .inl (cB, 242, .inl f)), (hm, .inr (2, [.int (rdDate f n kind ta mo d).2.2.1, .int (rdDate f n kind ta mo d).2.2.2.1, .int (rdDate f n kind ta mo d).2.2.2.2, .int hh, .int mi, .int ss, .ref hp, .int (nI k)]))] := by
            try rw [hF9]
            exact hD.sub [1, 2, 3, 0] (by decide) rfl
          have hv9 : (1 : Int32) = bI (rdDate f n kind ta mo d).1 := by
            try rw [hF9]
            try rfl
          exact kc_zret hx hb hr hlocks hv9 (bI_nar hv9) hP9 hD9 hS dX3_readDate_87
      · refine lv_iconst (v := 0) hx hb dX3_readDate_51 (by decide) ?_
        have hF9 : rdDate f n kind ta mo d = (false, v_37.2, v_15.1, v_37.1, d) := by
          subst e_37
          subst e_15
          first | (simp only [rdDate, if_neg c_2, if_neg c_26, if_pos c_48]; done) | rfl
        have hP9 : va_P (dC, dI) kcl [(h, .inr (3, [.int (rdDate f n kind ta mo d).2.1, .int ah])), (ar, .inr (0, [.ref ab, .int (nI n)])), (ab, .inl (cB, 242, .inl f)), (hm, .inr (2, [.int (rdDate f n kind ta mo d).2.2.1, .int (rdDate f n kind ta mo d).2.2.2.1, .int (rdDate f n kind ta mo d).2.2.2.2, .int hh, .int mi, .int ss, .ref hp, .int (nI k)]))] H := by
          try rw [hF9]
          exact hP.sub [1, 2, 3, 0] rfl
        have hD9 : va_D A [(h, .inr (3, [.int (rdDate f n kind ta mo d).2.1, .int ah])), (ar, .inr (0, [.ref ab, .int (nI n)])), (ab, .inl (cB, 242, .inl f)), (hm, .inr (2, [.int (rdDate f n kind ta mo d).2.2.1, .int (rdDate f n kind ta mo d).2.2.2.1, .int (rdDate f n kind ta mo d).2.2.2.2, .int hh, .int mi, .int ss, .ref hp, .int (nI k)]))] := by
          try rw [hF9]
          exact hD.sub [1, 2, 3, 0] (by decide) rfl
        have hv9 : (0 : Int32) = bI (rdDate f n kind ta mo d).1 := by
          try rw [hF9]
          try rfl
        exact kc_zret hx hb hr hlocks hv9 (bI_nar hv9) hP9 hD9 hS dX3_readDate_52
    · refine lv_iconst (v := 0) hx hb dX3_readDate_29 (by decide) ?_
      have hF9 : rdDate f n kind ta mo d = (false, v_15.2, v_15.1, mo, d) := by
        subst e_15
        first | (simp only [rdDate, if_neg c_2, if_pos c_26]; done) | rfl
      have hP9 : va_P (dC, dI) kcl [(h, .inr (3, [.int (rdDate f n kind ta mo d).2.1, .int ah])), (ar, .inr (0, [.ref ab, .int (nI n)])), (ab, .inl (cB, 242, .inl f)), (hm, .inr (2, [.int (rdDate f n kind ta mo d).2.2.1, .int (rdDate f n kind ta mo d).2.2.2.1, .int (rdDate f n kind ta mo d).2.2.2.2, .int hh, .int mi, .int ss, .ref hp, .int (nI k)]))] H := by
        try rw [hF9]
        exact hP.sub [1, 2, 3, 0] rfl
      have hD9 : va_D A [(h, .inr (3, [.int (rdDate f n kind ta mo d).2.1, .int ah])), (ar, .inr (0, [.ref ab, .int (nI n)])), (ab, .inl (cB, 242, .inl f)), (hm, .inr (2, [.int (rdDate f n kind ta mo d).2.2.1, .int (rdDate f n kind ta mo d).2.2.2.1, .int (rdDate f n kind ta mo d).2.2.2.2, .int hh, .int mi, .int ss, .ref hp, .int (nI k)]))] := by
        try rw [hF9]
        exact hD.sub [1, 2, 3, 0] (by decide) rfl
      have hv9 : (0 : Int32) = bI (rdDate f n kind ta mo d).1 := by
        try rw [hF9]
        try rfl
      exact kc_zret hx hb hr hlocks hv9 (bI_nar hv9) hP9 hD9 hS dX3_readDate_30
  · refine lv_aload_n hx hb dX3_readDate_5 rfl (lv_at hl 0 rfl) ?_
    refine lv_aload_n hx hb dX3_readDate_6 rfl (lv_at hl 1 rfl) ?_
    have hPc := hP.sub (ws' := [(h, .inr (3, [.int ta, .int ah])), (ar, .inr (0, [.ref ab, .int (nI n)])), (ab, .inl (cB, 242, .inl f))]) [0, 1, 2] rfl
    have hDc := hD.sub (ws' := [(h, .inr (3, [.int ta, .int ah])), (ar, .inr (0, [.ref ab, .int (nI n)])), (ab, .inl (cB, 242, .inl f))]) [0, 1, 2] (by decide) rfl
    have hKc := hK.sub (tys' := [(cB, .byte)]) [0] rfl
    have hFc := va_free (wc := [(h, .inr (3, [.int ta, .int ah])), (ar, .inr (0, [.ref ab, .int (nI n)])), (ab, .inl (cB, 242, .inl f))]) hD hS hA [0, 1, 2] rfl
    refine kc_calli (val := (rdShort f n ta).1) (wr := [(hm, .inr (2, [.int y, .int mo, .int d, .int hh, .int mi, .int ss, .ref hp, .int (nI k)]))]) (w1 := [(h, .inr (3, [.int (rdShort f n ta).2, .int ah])), (ar, .inr (0, [.ref ab, .int (nI n)])), (ab, .inl (cB, 242, .inl f))]) (va_runV (As := [.ref ar]) (rest := [.ref hm]) ⟨hx, hb, hml, hown, hts⟩ (c_Rd_shortYear l dC dI st s.heap.size h ar ab cB f n ta ah hn) (cwV 1 hts (kwV kwm_58 kwm_59 kwm_60 kwm_52 kwm_57) rfl rfl rfl (by decide +kernel) ⟨Nat.le_of_ble_eq_true rfl, Nat.le_of_ble_eq_true rfl⟩) ⟨kc_blind, va_recv hKc hPc (ci := 3) (q0 := 0) rfl rfl, kc_pre hG hS hFc hKc hPc hDc⟩ rfl rfl hl.1 rfl (lv_room (Nat.le_of_ble_eq_true rfl)) dX3_readDate_7 ⟨Nat.le_of_ble_eq_true rfl, Nat.le_of_ble_eq_true rfl⟩) hP hD hS hFc [0, 1, 2] [3] rfl rfl (by decide) (by decide) (fun H locs hP hD hS => ?_)
    have hP : va_P (dC, dI) kcl [(hm, .inr (2, [.int y, .int mo, .int d, .int hh, .int mi, .int ss, .ref hp, .int (nI k)])), (h, .inr (3, [.int (rdShort f n ta).2, .int ah])), (ar, .inr (0, [.ref ab, .int (nI n)])), (ab, .inl (cB, 242, .inl f))] H := hP
    have hD : va_D A [(hm, .inr (2, [.int y, .int mo, .int d, .int hh, .int mi, .int ss, .ref hp, .int (nI k)])), (h, .inr (3, [.int (rdShort f n ta).2, .int ah])), (ar, .inr (0, [.ref ab, .int (nI n)])), (ab, .inl (cB, 242, .inl f))] := hD
    generalize e_7 : rdShort f n ta = v_7 at hP hD ⊢
    have hP : va_P (dC, dI) kcl [(hm, .inr (2, [.int y, .int mo, .int d, .int hh, .int mi, .int ss, .ref hp, .int (nI k)])), (h, .inr (3, [.int v_7.2, .int ah])), (ar, .inr (0, [.ref ab, .int (nI n)])), (ab, .inl (cB, 242, .inl f))] H := hP
    have hD : va_D A [(hm, .inr (2, [.int y, .int mo, .int d, .int hh, .int mi, .int ss, .ref hp, .int (nI k)])), (h, .inr (3, [.int v_7.2, .int ah])), (ar, .inr (0, [.ref ab, .int (nI n)])), (ab, .inl (cB, 242, .inl f))] := hD
    refine lv_goto (tgt := 18) hx hb dX3_readDate_10 (by decide) ?_
    refine va_putN (D := (dC, dI)) (ci := 2) (v := .int v_7.1) (ty := .int) (C := RX2) (T := TX2) (N := 8) hx hb hts kin_2 tyX2 tyX2_ok nmX2 hown hK hP hD hS 0 rfl rfl 0 (by decide) (kg_use hG (List.mem_of_getElem? (i := 6) (a := Cond.fieldLinkNest RX3 43 "ClockTexts$Moment" "year" "I" "ClockTexts") rfl)) (fun _ h9 => h9) rfl (by decide +kernel) rfl rfl (Nat.le_of_ble_eq_true rfl) dX3_readDate_18 (fun H locs hP hD hS => ?_)
    have hP : va_P (dC, dI) kcl [(hm, .inr (2, [.int v_7.1, .int mo, .int d, .int hh, .int mi, .int ss, .ref hp, .int (nI k)])), (h, .inr (3, [.int v_7.2, .int ah])), (ar, .inr (0, [.ref ab, .int (nI n)])), (ab, .inl (cB, 242, .inl f))] H := hP
    have hD : va_D A [(hm, .inr (2, [.int v_7.1, .int mo, .int d, .int hh, .int mi, .int ss, .ref hp, .int (nI k)])), (h, .inr (3, [.int v_7.2, .int ah])), (ar, .inr (0, [.ref ab, .int (nI n)])), (ab, .inl (cB, 242, .inl f))] := hD
    refine lv_aload_n hx hb dX3_readDate_21 rfl (lv_at hl 3 rfl) ?_
    refine va_getN (D := (dC, dI)) (ci := 2) (v := .int v_7.1) (C := RX2) (T := TX2) (N := 8) hx hb hts kin_2 hown hK hP 0 rfl rfl 0 (by decide) (kg_use hG (List.mem_of_getElem? (i := 6) (a := Cond.fieldLinkNest RX3 43 "ClockTexts$Moment" "year" "I" "ClockTexts") rfl)) (fun _ h9 => h9) rfl dX3_readDate_22 ?_
    refine lv_iconst (v := (-1)) hx hb dX3_readDate_25 (by decide) ?_
    refine lv_icmp_ne (tgt := 31) hx hb dX3_readDate_26 (by decide) (fun c_26 => ?_) (fun c_26 => ?_)
    · refine lv_aload_n hx hb dX3_readDate_31 rfl (lv_at hl 3 rfl) ?_
      refine lv_aload_n hx hb dX3_readDate_32 rfl (lv_at hl 0 rfl) ?_
      refine lv_aload_n hx hb dX3_readDate_33 rfl (lv_at hl 1 rfl) ?_
      refine lv_iconst (v := 1) hx hb dX3_readDate_34 (by decide) ?_
      refine lv_bipush (v := 12) hx hb dX3_readDate_35 (by decide) ?_
      have hPc := hP.sub (ws' := [(h, .inr (3, [.int v_7.2, .int ah])), (ar, .inr (0, [.ref ab, .int (nI n)])), (ab, .inl (cB, 242, .inl f))]) [1, 2, 3] rfl
      have hDc := hD.sub (ws' := [(h, .inr (3, [.int v_7.2, .int ah])), (ar, .inr (0, [.ref ab, .int (nI n)])), (ab, .inl (cB, 242, .inl f))]) [1, 2, 3] (by decide) rfl
      have hKc := hK.sub (tys' := [(cB, .byte)]) [0] rfl
      have hFc := va_free (wc := [(h, .inr (3, [.int v_7.2, .int ah])), (ar, .inr (0, [.ref ab, .int (nI n)])), (ab, .inl (cB, 242, .inl f))]) hD hS hA [1, 2, 3] rfl
      refine kc_calli (val := (rdPair f n v_7.2 1 12).1) (wr := [(hm, .inr (2, [.int v_7.1, .int mo, .int d, .int hh, .int mi, .int ss, .ref hp, .int (nI k)]))]) (w1 := [(h, .inr (3, [.int (rdPair f n v_7.2 1 12).2, .int ah])), (ar, .inr (0, [.ref ab, .int (nI n)])), (ab, .inl (cB, 242, .inl f))]) (va_runV (As := [.ref ar, .int 1, .int 12]) (rest := [.ref hm]) ⟨hx, hb, hml, hown, hts⟩ (c_Rd_readPair l dC dI st H.size h ar ab cB f n v_7.2 ah 1 12 hn) (cwV 3 hts (kwV kwm_49 kwm_50 kwm_51 kwm_52 kwm_48) rfl rfl rfl (by decide +kernel) ⟨Nat.le_of_ble_eq_true rfl, Nat.le_of_ble_eq_true rfl⟩) ⟨kc_blind, va_recv hKc hPc (ci := 3) (q0 := 0) rfl rfl, kc_pre hG hS hFc hKc hPc hDc⟩ rfl rfl hl.1 rfl (lv_room (Nat.le_of_ble_eq_true rfl)) dX3_readDate_37 ⟨Nat.le_of_ble_eq_true rfl, Nat.le_of_ble_eq_true rfl⟩) hP hD hS hFc [1, 2, 3] [0] rfl rfl (by decide) (by decide) (fun H locs hP hD hS => ?_)
      have hP : va_P (dC, dI) kcl [(hm, .inr (2, [.int v_7.1, .int mo, .int d, .int hh, .int mi, .int ss, .ref hp, .int (nI k)])), (h, .inr (3, [.int (rdPair f n v_7.2 1 12).2, .int ah])), (ar, .inr (0, [.ref ab, .int (nI n)])), (ab, .inl (cB, 242, .inl f))] H := hP
      have hD : va_D A [(hm, .inr (2, [.int v_7.1, .int mo, .int d, .int hh, .int mi, .int ss, .ref hp, .int (nI k)])), (h, .inr (3, [.int (rdPair f n v_7.2 1 12).2, .int ah])), (ar, .inr (0, [.ref ab, .int (nI n)])), (ab, .inl (cB, 242, .inl f))] := hD
      generalize e_37 : rdPair f n v_7.2 1 12 = v_37 at hP hD ⊢
      have hP : va_P (dC, dI) kcl [(hm, .inr (2, [.int v_7.1, .int mo, .int d, .int hh, .int mi, .int ss, .ref hp, .int (nI k)])), (h, .inr (3, [.int v_37.2, .int ah])), (ar, .inr (0, [.ref ab, .int (nI n)])), (ab, .inl (cB, 242, .inl f))] H := hP
      have hD : va_D A [(hm, .inr (2, [.int v_7.1, .int mo, .int d, .int hh, .int mi, .int ss, .ref hp, .int (nI k)])), (h, .inr (3, [.int v_37.2, .int ah])), (ar, .inr (0, [.ref ab, .int (nI n)])), (ab, .inl (cB, 242, .inl f))] := hD
      refine va_putN (D := (dC, dI)) (ci := 2) (v := .int v_37.1) (ty := .int) (C := RX2) (T := TX2) (N := 8) hx hb hts kin_2 tyX2 tyX2_ok nmX2 hown hK hP hD hS 0 rfl rfl 1 (by decide) (kg_use hG (List.mem_of_getElem? (i := 7) (a := Cond.fieldLinkNest RX3 61 "ClockTexts$Moment" "month" "I" "ClockTexts") rfl)) (fun _ h9 => h9) rfl (by decide +kernel) rfl rfl (Nat.le_of_ble_eq_true rfl) dX3_readDate_40 (fun H locs hP hD hS => ?_)
      have hP : va_P (dC, dI) kcl [(hm, .inr (2, [.int v_7.1, .int v_37.1, .int d, .int hh, .int mi, .int ss, .ref hp, .int (nI k)])), (h, .inr (3, [.int v_37.2, .int ah])), (ar, .inr (0, [.ref ab, .int (nI n)])), (ab, .inl (cB, 242, .inl f))] H := hP
      have hD : va_D A [(hm, .inr (2, [.int v_7.1, .int v_37.1, .int d, .int hh, .int mi, .int ss, .ref hp, .int (nI k)])), (h, .inr (3, [.int v_37.2, .int ah])), (ar, .inr (0, [.ref ab, .int (nI n)])), (ab, .inl (cB, 242, .inl f))] := hD
      refine lv_aload_n hx hb dX3_readDate_43 rfl (lv_at hl 3 rfl) ?_
      refine va_getN (D := (dC, dI)) (ci := 2) (v := .int v_37.1) (C := RX2) (T := TX2) (N := 8) hx hb hts kin_2 hown hK hP 0 rfl rfl 1 (by decide) (kg_use hG (List.mem_of_getElem? (i := 7) (a := Cond.fieldLinkNest RX3 61 "ClockTexts$Moment" "month" "I" "ClockTexts") rfl)) (fun _ h9 => h9) rfl dX3_readDate_44 ?_
      refine lv_iconst (v := (-1)) hx hb dX3_readDate_47 (by decide) ?_
      refine lv_icmp_ne (tgt := 53) hx hb dX3_readDate_48 (by decide) (fun c_48 => ?_) (fun c_48 => ?_)
      · refine lv_aload_n hx hb dX3_readDate_53 rfl (lv_at hl 3 rfl) ?_
        refine lv_aload_n hx hb dX3_readDate_54 rfl (lv_at hl 0 rfl) ?_
        refine lv_aload_n hx hb dX3_readDate_55 rfl (lv_at hl 1 rfl) ?_
        refine lv_iconst (v := 1) hx hb dX3_readDate_56 (by decide) ?_
        refine lv_aload_n hx hb dX3_readDate_57 rfl (lv_at hl 3 rfl) ?_
        refine va_getN (D := (dC, dI)) (ci := 2) (v := .int v_7.1) (C := RX2) (T := TX2) (N := 8) hx hb hts kin_2 hown hK hP 0 rfl rfl 0 (by decide) (kg_use hG (List.mem_of_getElem? (i := 6) (a := Cond.fieldLinkNest RX3 43 "ClockTexts$Moment" "year" "I" "ClockTexts") rfl)) (fun _ h9 => h9) rfl dX3_readDate_58 ?_
        refine lv_aload_n hx hb dX3_readDate_61 rfl (lv_at hl 3 rfl) ?_
        refine va_getN (D := (dC, dI)) (ci := 2) (v := .int v_37.1) (C := RX2) (T := TX2) (N := 8) hx hb hts kin_2 hown hK hP 0 rfl rfl 1 (by decide) (kg_use hG (List.mem_of_getElem? (i := 7) (a := Cond.fieldLinkNest RX3 61 "ClockTexts$Moment" "month" "I" "ClockTexts") rfl)) (fun _ h9 => h9) rfl dX3_readDate_62 ?_
        have hPc := hP.sub (ws' := []) [] rfl
        have hDc := hD.sub (ws' := []) [] (by decide) rfl
        have hKc := hK.sub (tys' := []) [] rfl
        have hFc := va_free (wc := []) hD hS hA [] rfl
        refine kc_callSi (val := daysM v_7.1 v_37.1) (va_runSN (As := [.int v_7.1, .int v_37.1]) (rest := [.int 1, .ref ar, .ref h, .ref hm]) ⟨hx, hb, hml, hown, hts⟩ (c_CT_daysOfMonth l dC dI st H.size v_7.1 v_37.1 ) ⟨va_cnB 2 hts (kwC kwm_16) rfl rfl rfl (kg_nest hG (List.mem_of_getElem? (i := 8) (a := Cond.methodLinkNest RX3 64 yX4_daysOfMonth "ClockTexts") rfl)) (hts _ (kcm kwm_14)) (by decide +kernel) ⟨Nat.le_of_ble_eq_true rfl, Nat.le_of_ble_eq_true rfl⟩, hts _ (kcm kwm_37), trivial⟩ ⟨kc_blind, kc_pre hG hS hFc hKc hPc hDc⟩ rfl rfl hl.1 rfl (lv_room (Nat.le_of_ble_eq_true rfl)) dX3_readDate_65 ⟨Nat.le_of_ble_eq_true rfl, Nat.le_of_ble_eq_true rfl⟩) ?_
        have hPc := hP.sub (ws' := [(h, .inr (3, [.int v_37.2, .int ah])), (ar, .inr (0, [.ref ab, .int (nI n)])), (ab, .inl (cB, 242, .inl f))]) [1, 2, 3] rfl
        have hDc := hD.sub (ws' := [(h, .inr (3, [.int v_37.2, .int ah])), (ar, .inr (0, [.ref ab, .int (nI n)])), (ab, .inl (cB, 242, .inl f))]) [1, 2, 3] (by decide) rfl
        have hKc := hK.sub (tys' := [(cB, .byte)]) [0] rfl
        have hFc := va_free (wc := [(h, .inr (3, [.int v_37.2, .int ah])), (ar, .inr (0, [.ref ab, .int (nI n)])), (ab, .inl (cB, 242, .inl f))]) hD hS hA [1, 2, 3] rfl
        refine kc_calli (val := (rdPair f n v_37.2 1 (daysM v_7.1 v_37.1)).1) (wr := [(hm, .inr (2, [.int v_7.1, .int v_37.1, .int d, .int hh, .int mi, .int ss, .ref hp, .int (nI k)]))]) (w1 := [(h, .inr (3, [.int (rdPair f n v_37.2 1 (daysM v_7.1 v_37.1)).2, .int ah])), (ar, .inr (0, [.ref ab, .int (nI n)])), (ab, .inl (cB, 242, .inl f))]) (va_runV (As := [.ref ar, .int 1, .int (daysM v_7.1 v_37.1)]) (rest := [.ref hm]) ⟨hx, hb, hml, hown, hts⟩ (c_Rd_readPair l dC dI st H.size h ar ab cB f n v_37.2 ah 1 (daysM v_7.1 v_37.1) hn) (cwV 3 hts (kwV kwm_49 kwm_50 kwm_51 kwm_52 kwm_48) rfl rfl rfl (by decide +kernel) ⟨Nat.le_of_ble_eq_true rfl, Nat.le_of_ble_eq_true rfl⟩) ⟨kc_blind, va_recv hKc hPc (ci := 3) (q0 := 0) rfl rfl, kc_pre hG hS hFc hKc hPc hDc⟩ rfl rfl hl.1 rfl (lv_room (Nat.le_of_ble_eq_true rfl)) dX3_readDate_68 ⟨Nat.le_of_ble_eq_true rfl, Nat.le_of_ble_eq_true rfl⟩) hP hD hS hFc [1, 2, 3] [0] rfl rfl (by decide) (by decide) (fun H locs hP hD hS => ?_)
        have hP : va_P (dC, dI) kcl [(hm, .inr (2, [.int v_7.1, .int v_37.1, .int d, .int hh, .int mi, .int ss, .ref hp, .int (nI k)])), (h, .inr (3, [.int (rdPair f n v_37.2 1 (daysM v_7.1 v_37.1)).2, .int ah])), (ar, .inr (0, [.ref ab, .int (nI n)])), (ab, .inl (cB, 242, .inl f))] H := hP
        have hD : va_D A [(hm, .inr (2, [.int v_7.1, .int v_37.1, .int d, .int hh, .int mi, .int ss, .ref hp, .int (nI k)])), (h, .inr (3, [.int (rdPair f n v_37.2 1 (daysM v_7.1 v_37.1)).2, .int ah])), (ar, .inr (0, [.ref ab, .int (nI n)])), (ab, .inl (cB, 242, .inl f))] := hD
        generalize e_68 : rdPair f n v_37.2 1 (daysM v_7.1 v_37.1) = v_68 at hP hD ⊢
        have hP : va_P (dC, dI) kcl [(hm, .inr (2, [.int v_7.1, .int v_37.1, .int d, .int hh, .int mi, .int ss, .ref hp, .int (nI k)])), (h, .inr (3, [.int v_68.2, .int ah])), (ar, .inr (0, [.ref ab, .int (nI n)])), (ab, .inl (cB, 242, .inl f))] H := hP
        have hD : va_D A [(hm, .inr (2, [.int v_7.1, .int v_37.1, .int d, .int hh, .int mi, .int ss, .ref hp, .int (nI k)])), (h, .inr (3, [.int v_68.2, .int ah])), (ar, .inr (0, [.ref ab, .int (nI n)])), (ab, .inl (cB, 242, .inl f))] := hD
        refine va_putN (D := (dC, dI)) (ci := 2) (v := .int v_68.1) (ty := .int) (C := RX2) (T := TX2) (N := 8) hx hb hts kin_2 tyX2 tyX2_ok nmX2 hown hK hP hD hS 0 rfl rfl 2 (by decide) (kg_use hG (List.mem_of_getElem? (i := 9) (a := Cond.fieldLinkNest RX3 68 "ClockTexts$Moment" "day" "I" "ClockTexts") rfl)) (fun _ h9 => h9) rfl (by decide +kernel) rfl rfl (Nat.le_of_ble_eq_true rfl) dX3_readDate_71 (fun H locs hP hD hS => ?_)
        have hP : va_P (dC, dI) kcl [(hm, .inr (2, [.int v_7.1, .int v_37.1, .int v_68.1, .int hh, .int mi, .int ss, .ref hp, .int (nI k)])), (h, .inr (3, [.int v_68.2, .int ah])), (ar, .inr (0, [.ref ab, .int (nI n)])), (ab, .inl (cB, 242, .inl f))] H := hP
        have hD : va_D A [(hm, .inr (2, [.int v_7.1, .int v_37.1, .int v_68.1, .int hh, .int mi, .int ss, .ref hp, .int (nI k)])), (h, .inr (3, [.int v_68.2, .int ah])), (ar, .inr (0, [.ref ab, .int (nI n)])), (ab, .inl (cB, 242, .inl f))] := hD
        refine lv_aload_n hx hb dX3_readDate_74 rfl (lv_at hl 3 rfl) ?_
        refine va_getN (D := (dC, dI)) (ci := 2) (v := .int v_68.1) (C := RX2) (T := TX2) (N := 8) hx hb hts kin_2 hown hK hP 0 rfl rfl 2 (by decide) (kg_use hG (List.mem_of_getElem? (i := 9) (a := Cond.fieldLinkNest RX3 68 "ClockTexts$Moment" "day" "I" "ClockTexts") rfl)) (fun _ h9 => h9) rfl dX3_readDate_75 ?_
        refine lv_iconst (v := (-1)) hx hb dX3_readDate_78 (by decide) ?_
        refine lv_icmp_eq (tgt := 86) hx hb dX3_readDate_79 (by decide) (fun c_79 => ?_) (fun c_79 => ?_)
        · refine lv_iconst (v := 0) hx hb dX3_readDate_86 (by decide) ?_
          have hF9 : rdDate f n kind ta mo d = (false, v_68.2, v_7.1, v_37.1, v_68.1) := by
            subst e_68
            subst e_37
            subst e_7
            first | (simp only [rdDate, if_pos c_2, if_neg c_26, if_neg c_48, if_pos c_79]; done) | rfl
          have hP9 : va_P (dC, dI) kcl [(h, .inr (3, [.int (rdDate f n kind ta mo d).2.1, .int ah])), (ar, .inr (0, [.ref ab, .int (nI n)])), (ab, .inl (cB, 242, .inl f)), (hm, .inr (2, [.int (rdDate f n kind ta mo d).2.2.1, .int (rdDate f n kind ta mo d).2.2.2.1, .int (rdDate f n kind ta mo d).2.2.2.2, .int hh, .int mi, .int ss, .ref hp, .int (nI k)]))] H := by
            try rw [hF9]
            exact hP.sub [1, 2, 3, 0] rfl
          have hD9 : va_D A [(h, .inr (3, [.int (rdDate f n kind ta mo d).2.1, .int ah])), (ar, .inr (0, [.ref ab, .int (nI n)])), (ab, .inl (cB, 242, .inl f)), (hm, .inr (2, [.int (rdDate f n kind ta mo d).2.2.1, .int (rdDate f n kind ta mo d).2.2.2.1, .int (rdDate f n kind ta mo d).2.2.2.2, .int hh, .int mi, .int ss, .ref hp, .int (nI k)]))] := by
            try rw [hF9]
            exact hD.sub [1, 2, 3, 0] (by decide) rfl
          have hv9 : (0 : Int32) = bI (rdDate f n kind ta mo d).1 := by
            try rw [hF9]
            try rfl
          exact kc_zret hx hb hr hlocks hv9 (bI_nar hv9) hP9 hD9 hS dX3_readDate_87
        · refine lv_iconst (v := 1) hx hb dX3_readDate_82 (by decide) ?_
          refine lv_goto (tgt := 87) hx hb dX3_readDate_83 (by decide) ?_
          have hF9 : rdDate f n kind ta mo d = (true, v_68.2, v_7.1, v_37.1, v_68.1) := by
            subst e_68
            subst e_37
            subst e_7
            first | (simp only [rdDate, if_pos c_2, if_neg c_26, if_neg c_48, if_neg c_79]; done) | rfl
          have hP9 : va_P (dC, dI) kcl [(h, .inr (3, [.int (rdDate f n kind ta mo d).2.1, .int ah])), (ar, .inr (0, [.ref ab, .int (nI n)])), (ab, .inl (cB, 242, .inl f)), (hm, .inr (2, [.int (rdDate f n kind ta mo d).2.2.1, .int (rdDate f n kind ta mo d).2.2.2.1, .int (rdDate f n kind ta mo d).2.2.2.2, .int hh, .int mi, .int ss, .ref hp, .int (nI k)]))] H := by
            try rw [hF9]
            exact hP.sub [1, 2, 3, 0] rfl
          have hD9 : va_D A [(h, .inr (3, [.int (rdDate f n kind ta mo d).2.1, .int ah])), (ar, .inr (0, [.ref ab, .int (nI n)])), (ab, .inl (cB, 242, .inl f)), (hm, .inr (2, [.int (rdDate f n kind ta mo d).2.2.1, .int (rdDate f n kind ta mo d).2.2.2.1, .int (rdDate f n kind ta mo d).2.2.2.2, .int hh, .int mi, .int ss, .ref hp, .int (nI k)]))] := by
            try rw [hF9]
            exact hD.sub [1, 2, 3, 0] (by decide) rfl
          have hv9 : (1 : Int32) = bI (rdDate f n kind ta mo d).1 := by
            try rw [hF9]
            try rfl
          exact kc_zret hx hb hr hlocks hv9 (bI_nar hv9) hP9 hD9 hS dX3_readDate_87
      · refine lv_iconst (v := 0) hx hb dX3_readDate_51 (by decide) ?_
        have hF9 : rdDate f n kind ta mo d = (false, v_37.2, v_7.1, v_37.1, d) := by
          subst e_37
          subst e_7
          first | (simp only [rdDate, if_pos c_2, if_neg c_26, if_pos c_48]; done) | rfl
        have hP9 : va_P (dC, dI) kcl [(h, .inr (3, [.int (rdDate f n kind ta mo d).2.1, .int ah])), (ar, .inr (0, [.ref ab, .int (nI n)])), (ab, .inl (cB, 242, .inl f)), (hm, .inr (2, [.int (rdDate f n kind ta mo d).2.2.1, .int (rdDate f n kind ta mo d).2.2.2.1, .int (rdDate f n kind ta mo d).2.2.2.2, .int hh, .int mi, .int ss, .ref hp, .int (nI k)]))] H := by
          try rw [hF9]
          exact hP.sub [1, 2, 3, 0] rfl
        have hD9 : va_D A [(h, .inr (3, [.int (rdDate f n kind ta mo d).2.1, .int ah])), (ar, .inr (0, [.ref ab, .int (nI n)])), (ab, .inl (cB, 242, .inl f)), (hm, .inr (2, [.int (rdDate f n kind ta mo d).2.2.1, .int (rdDate f n kind ta mo d).2.2.2.1, .int (rdDate f n kind ta mo d).2.2.2.2, .int hh, .int mi, .int ss, .ref hp, .int (nI k)]))] := by
          try rw [hF9]
          exact hD.sub [1, 2, 3, 0] (by decide) rfl
        have hv9 : (0 : Int32) = bI (rdDate f n kind ta mo d).1 := by
          try rw [hF9]
          try rfl
        exact kc_zret hx hb hr hlocks hv9 (bI_nar hv9) hP9 hD9 hS dX3_readDate_52
    · refine lv_iconst (v := 0) hx hb dX3_readDate_29 (by decide) ?_
      have hF9 : rdDate f n kind ta mo d = (false, v_7.2, v_7.1, mo, d) := by
        subst e_7
        first | (simp only [rdDate, if_pos c_2, if_pos c_26]; done) | rfl
      have hP9 : va_P (dC, dI) kcl [(h, .inr (3, [.int (rdDate f n kind ta mo d).2.1, .int ah])), (ar, .inr (0, [.ref ab, .int (nI n)])), (ab, .inl (cB, 242, .inl f)), (hm, .inr (2, [.int (rdDate f n kind ta mo d).2.2.1, .int (rdDate f n kind ta mo d).2.2.2.1, .int (rdDate f n kind ta mo d).2.2.2.2, .int hh, .int mi, .int ss, .ref hp, .int (nI k)]))] H := by
        try rw [hF9]
        exact hP.sub [1, 2, 3, 0] rfl
      have hD9 : va_D A [(h, .inr (3, [.int (rdDate f n kind ta mo d).2.1, .int ah])), (ar, .inr (0, [.ref ab, .int (nI n)])), (ab, .inl (cB, 242, .inl f)), (hm, .inr (2, [.int (rdDate f n kind ta mo d).2.2.1, .int (rdDate f n kind ta mo d).2.2.2.1, .int (rdDate f n kind ta mo d).2.2.2.2, .int hh, .int mi, .int ss, .ref hp, .int (nI k)]))] := by
        try rw [hF9]
        exact hD.sub [1, 2, 3, 0] (by decide) rfl
      have hv9 : (0 : Int32) = bI (rdDate f n kind ta mo d).1 := by
        try rw [hF9]
        try rfl
      exact kc_zret hx hb hr hlocks hv9 (bI_nar hv9) hP9 hD9 hS dX3_readDate_30
