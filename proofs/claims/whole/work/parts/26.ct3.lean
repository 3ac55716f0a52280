def scR (tt : Bool) (y mo d hh mi ss : Int32) : Nat × Int64 :=
  if (bI tt) = 0 then
    (1, 0)
  else
    (0, wSecs y mo d hh mi ss)
set_option maxHeartbeats 4000000 in
set_option maxRecDepth 100000 in
theorem c_CT_seconds (l : Launch) (hl9 : l.stackTraces = false) (dC : Nat → ClassId) (dI : Nat → Nat → Nat) (st sz : Nat) (x : Nat) (t0 : Nat) (w0 : Nat) (r0 : Nat) (m0 : Nat) (k0 : Nat) (tt : Bool) (lf : Int32) (y : Int32) (mo : Int32) (d : Int32) (hh : Int32) (mi : Int32) (ss : Int32) (hp : Nat) (k : Nat)  : vx_Met l yX4_seconds wsX4_seconds ({ frames := 6, cells := 1, slots := 6, locals := 90 }) (kc_Pc (dC, dI) kcl st sz [.ref x] [(x, .inr (4, [.ref t0, .ref w0, .ref r0, .ref m0, .ref k0, .int (bI tt), .int lf])), (m0, .inr (2, [.int y, .int mo, .int d, .int hh, .int mi, .int ss, .ref hp, .int (nI k)]))] []) (kx_Ql (dC, dI) kcl (scR tt y mo d hh mi ss).1 (scR tt y mo d hh mi ss).2 [(x, .inr (4, [.ref t0, .ref w0, .ref r0, .ref m0, .ref k0, .int (bI tt), .int lf])), (m0, .inr (2, [.int y, .int mo, .int d, .int hh, .int mi, .int ss, .ref hp, .int (nI k)]))] (va_A [(x, .inr (4, [.ref t0, .ref w0, .ref r0, .ref m0, .ref k0, .int (bI tt), .int lf])), (m0, .inr (2, [.int y, .int mo, .int d, .int hh, .int mi, .int ss, .ref hp, .int (nI k)]))] sz)) (kx_X (dC, dI) kcl (scR tt y mo d hh mi ss).1 [(x, .inr (4, [.ref t0, .ref w0, .ref r0, .ref m0, .ref k0, .int (bI tt), .int lf])), (m0, .inr (2, [.int y, .int mo, .int d, .int hh, .int mi, .int ss, .ref hp, .int (nI k)]))] (va_A [(x, .inr (4, [.ref t0, .ref w0, .ref r0, .ref m0, .ref k0, .int (bI tt), .int lf])), (m0, .inr (2, [.int y, .int mo, .int d, .int hh, .int mi, .int ss, .ref hp, .int (nI k)]))] sz)) 1 6 (va_A [(x, .inr (4, [.ref t0, .ref w0, .ref r0, .ref m0, .ref k0, .int (bI tt), .int lf])), (m0, .inr (2, [.int y, .int mo, .int d, .int hh, .int mi, .int ss, .ref hp, .int (nI k)]))] sz) := by
  refine kx_ofW (Qc := fun A => (kx_Ql (dC, dI) kcl (scR tt y mo d hh mi ss).1 (scR tt y mo d hh mi ss).2 [(x, .inr (4, [.ref t0, .ref w0, .ref r0, .ref m0, .ref k0, .int (bI tt), .int lf])), (m0, .inr (2, [.int y, .int mo, .int d, .int hh, .int mi, .int ss, .ref hp, .int (nI k)]))] A)) (XC := fun A => kx_X (dC, dI) kcl (scR tt y mo d hh mi ss).1 [(x, .inr (4, [.ref t0, .ref w0, .ref r0, .ref m0, .ref k0, .int (bI tt), .int lf])), (m0, .inr (2, [.int y, .int mo, .int d, .int hh, .int mi, .int ss, .ref hp, .int (nI k)]))] A) (cc := cX4_seconds) (maxL := 1) (ret := (some .long)) (by decide) rfl (Nat.le_of_ble_eq_true rfl) ?_
  intro p e s m below meth c A ls Cx hex hA hG hK hP hD hS hl
  obtain ⟨hx, hb, hr, hml, hown, hts, hlocks, hnm⟩ := id Cx
  have hl : lv_has ls 1 [(0, .ref x)] := hl
  refine lv_aload_n hx hb dX4_seconds_0 rfl (lv_at hl 0 rfl) ?_
  refine va_get (D := (dC, dI)) (ci := 4) (v := .int (bI tt)) (C := RX4) (T := TX4) (N := 7) hx hb hts kin_4 hown hK hP 0 rfl rfl 5 (by decide) (hts _ (kcm kwm_165)) (fun _ h9 => h9) rfl dX4_seconds_1 ?_
  refine lv_if_ne (tgt := 17) hx hb dX4_seconds_4 (by decide) (fun c_4 => ?_) (fun c_4 => ?_)
  · refine lv_aload_n hx hb dX4_seconds_17 rfl (lv_at hl 0 rfl) ?_
    refine va_get (D := (dC, dI)) (ci := 4) (v := .ref m0) (C := RX4) (T := TX4) (N := 7) hx hb hts kin_4 hown hK hP 0 rfl rfl 3 (by decide) (hts _ (kcm kwm_130)) (fun _ h9 => h9) rfl dX4_seconds_18 ?_
    have hPc := hP.sub (ws' := [(m0, .inr (2, [.int y, .int mo, .int d, .int hh, .int mi, .int ss, .ref hp, .int (nI k)]))]) [1] rfl
    have hDc := hD.sub (ws' := [(m0, .inr (2, [.int y, .int mo, .int d, .int hh, .int mi, .int ss, .ref hp, .int (nI k)]))]) [1] (by decide) rfl
    have hKc := hK.sub (tys' := []) [] rfl
    have hFc := va_free (wc := [(m0, .inr (2, [.int y, .int mo, .int d, .int hh, .int mi, .int ss, .ref hp, .int (nI k)]))]) hD hS hA [1] rfl
    refine kc_callSl (val := wSecs y mo d hh mi ss) (va_runV (As := []) (rest := []) ⟨hx, hb, hml, hown, hts⟩ (c_Mo_wholeSeconds l dC dI st s.heap.size m0 y mo d hh mi ss hp k ) (cwV 0 hts (kwV kwm_177 kwm_118 kwm_119 kwm_21 kwm_116) rfl rfl rfl (by decide +kernel) ⟨Nat.le_of_ble_eq_true rfl, Nat.le_of_ble_eq_true rfl⟩) ⟨kc_blind, va_recv hKc hPc (ci := 2) (q0 := 0) rfl rfl, kc_pre hG hS hFc hKc hPc hDc⟩ rfl rfl hl.1 rfl (lv_room (Nat.le_of_ble_eq_true rfl)) dX4_seconds_21 ⟨Nat.le_of_ble_eq_true rfl, Nat.le_of_ble_eq_true rfl⟩) ?_
    have hF9 : scR tt y mo d hh mi ss = (0, wSecs y mo d hh mi ss) := by
      first | (simp only [scR, if_neg c_4]; done) | rfl
    have hP9 : va_P (dC, dI) kcl [(x, .inr (4, [.ref t0, .ref w0, .ref r0, .ref m0, .ref k0, .int (bI tt), .int lf])), (m0, .inr (2, [.int y, .int mo, .int d, .int hh, .int mi, .int ss, .ref hp, .int (nI k)]))] s.heap := by
      try rw [hF9]
      exact hP.sub [0, 1] rfl
    have hD9 : va_D A [(x, .inr (4, [.ref t0, .ref w0, .ref r0, .ref m0, .ref k0, .int (bI tt), .int lf])), (m0, .inr (2, [.int y, .int mo, .int d, .int hh, .int mi, .int ss, .ref hp, .int (nI k)]))] := by
      try rw [hF9]
      exact hD.sub [0, 1] (by decide) rfl
    have hv9 : wSecs y mo d hh mi ss = (scR tt y mo d hh mi ss).2 := by
      try rw [hF9]
      try rfl
    exact kx_lret hx hb hr hlocks hv9 (by first | rw [hF9] | rfl) hP9 hD9 hS (Nat.le_of_ble_eq_true rfl) (Nat.le_of_ble_eq_true rfl) dX4_seconds_24
  · have hF9 : scR tt y mo d hh mi ss = (1, 0) := by
      first | (simp only [scR, if_pos c_4]; done) | rfl
    have hP9 : va_P (dC, dI) kcl [(x, .inr (4, [.ref t0, .ref w0, .ref r0, .ref m0, .ref k0, .int (bI tt), .int lf])), (m0, .inr (2, [.int y, .int mo, .int d, .int hh, .int mi, .int ss, .ref hp, .int (nI k)]))] s.heap := by
      try rw [hF9]
      exact hP.sub [0, 1] rfl
    have hD9 : va_D A [(x, .inr (4, [.ref t0, .ref w0, .ref r0, .ref m0, .ref k0, .int (bI tt), .int lf])), (m0, .inr (2, [.int y, .int mo, .int d, .int hh, .int mi, .int ss, .ref hp, .int (nI k)]))] := by
      try rw [hF9]
      exact hD.sub [0, 1] (by decide) rfl
    obtain ⟨sa9, hsa9⟩ := kg_str hG (List.mem_of_getElem? (i := 4) (a := (RX4, 89, "there is no time")) rfl)
    exact vx_throwS (own := RX4) (cls := "java/lang/IllegalStateException") (names := ["java/lang/RuntimeException", "java/lang/Exception"]) hx hb hl9 hown (by decide +kernel) (by decide +kernel) (hts _ (kcm kwm_171)) (hts _ (kcm kwm_172)) hsa9 (kg_hat hG (L := vx_atS RX4 55 "java/lang/IllegalStateException" ["java/lang/RuntimeException", "java/lang/Exception"]) (fun w hw => hts w ((by decide +kernel : ∀ w ∈ (vx_atS RX4 55 "java/lang/IllegalStateException" ["java/lang/RuntimeException", "java/lang/Exception"]).filter goodWord, w ∈ wsX4_seconds) w hw)) (by decide +kernel)) (by decide +kernel) (kg_U hG) (kg_V hG) hS (hl.1.trans hml.symm) dX4_seconds_7 dX4_seconds_10 dX4_seconds_11 dX4_seconds_13 dX4_seconds_16 (fun x h9 => (hex x h9).elim) (Nat.le_of_ble_eq_true rfl) (Nat.le_of_ble_eq_true rfl) (Nat.le_of_ble_eq_true rfl) (Nat.le_of_ble_eq_true rfl) hlocks (kx_made (by rw [hF9]; exact (show (1 : Nat) ≠ 0 by decide)) (by rw [hF9]; rfl) hP9 hD9 hS) hS.2.2 (Nat.le_of_ble_eq_true rfl) (Nat.le_of_ble_eq_true rfl)
def unR (tt : Bool) (y mo d hh mi ss : Int32) (k : Nat) (p1 : Int32) : Nat × Int32 :=
  if (bI tt) = 0 then
    (1, 0)
  else
    if p1 = 0 then
      (0, y)
    else
      if p1 = 1 then
        (0, mo)
      else
        if p1 = 2 then
          (0, d)
        else
          if p1 = 3 then
            (0, hh)
          else
            if p1 = 4 then
              (0, mi)
            else
              if p1 = 5 then
                (0, ss)
              else
                if p1 = 6 then
                  (0, nI k)
                else
                  if p1 = 7 then
                    (0, dayWk y mo d)
                  else
                    (3, 0)
set_option maxHeartbeats 4000000 in
set_option maxRecDepth 100000 in
theorem c_CT_unit (l : Launch) (hl9 : l.stackTraces = false) (dC : Nat → ClassId) (dI : Nat → Nat → Nat) (st sz : Nat) (x : Nat) (t0 : Nat) (w0 : Nat) (r0 : Nat) (m0 : Nat) (k0 : Nat) (tt : Bool) (lf : Int32) (y : Int32) (mo : Int32) (d : Int32) (hh : Int32) (mi : Int32) (ss : Int32) (hp : Nat) (k : Nat) (p1 : Int32)  : vx_Met l yX4_unit wsX4_unit ({ frames := 6, cells := 1, slots := 6, locals := 90 }) (kc_Pc (dC, dI) kcl st sz [.ref x, .int p1] [(x, .inr (4, [.ref t0, .ref w0, .ref r0, .ref m0, .ref k0, .int (bI tt), .int lf])), (m0, .inr (2, [.int y, .int mo, .int d, .int hh, .int mi, .int ss, .ref hp, .int (nI k)]))] []) (kx_Qi (dC, dI) kcl (unR tt y mo d hh mi ss k p1).1 (unR tt y mo d hh mi ss k p1).2 [(x, .inr (4, [.ref t0, .ref w0, .ref r0, .ref m0, .ref k0, .int (bI tt), .int lf])), (m0, .inr (2, [.int y, .int mo, .int d, .int hh, .int mi, .int ss, .ref hp, .int (nI k)]))] (va_A [(x, .inr (4, [.ref t0, .ref w0, .ref r0, .ref m0, .ref k0, .int (bI tt), .int lf])), (m0, .inr (2, [.int y, .int mo, .int d, .int hh, .int mi, .int ss, .ref hp, .int (nI k)]))] sz)) (kx_X (dC, dI) kcl (unR tt y mo d hh mi ss k p1).1 [(x, .inr (4, [.ref t0, .ref w0, .ref r0, .ref m0, .ref k0, .int (bI tt), .int lf])), (m0, .inr (2, [.int y, .int mo, .int d, .int hh, .int mi, .int ss, .ref hp, .int (nI k)]))] (va_A [(x, .inr (4, [.ref t0, .ref w0, .ref r0, .ref m0, .ref k0, .int (bI tt), .int lf])), (m0, .inr (2, [.int y, .int mo, .int d, .int hh, .int mi, .int ss, .ref hp, .int (nI k)]))] sz)) 1 6 (va_A [(x, .inr (4, [.ref t0, .ref w0, .ref r0, .ref m0, .ref k0, .int (bI tt), .int lf])), (m0, .inr (2, [.int y, .int mo, .int d, .int hh, .int mi, .int ss, .ref hp, .int (nI k)]))] sz) := by
  refine kx_ofW (Qc := fun A => (kx_Qi (dC, dI) kcl (unR tt y mo d hh mi ss k p1).1 (unR tt y mo d hh mi ss k p1).2 [(x, .inr (4, [.ref t0, .ref w0, .ref r0, .ref m0, .ref k0, .int (bI tt), .int lf])), (m0, .inr (2, [.int y, .int mo, .int d, .int hh, .int mi, .int ss, .ref hp, .int (nI k)]))] A)) (XC := fun A => kx_X (dC, dI) kcl (unR tt y mo d hh mi ss k p1).1 [(x, .inr (4, [.ref t0, .ref w0, .ref r0, .ref m0, .ref k0, .int (bI tt), .int lf])), (m0, .inr (2, [.int y, .int mo, .int d, .int hh, .int mi, .int ss, .ref hp, .int (nI k)]))] A) (cc := cX4_unit) (maxL := 2) (ret := (some .int)) (by decide) rfl (Nat.le_of_ble_eq_true rfl) ?_
  intro p e s m below meth c A ls Cx hex hA hG hK hP hD hS hl
  obtain ⟨hx, hb, hr, hml, hown, hts, hlocks, hnm⟩ := id Cx
  have hl : lv_has ls 2 [(0, .ref x), (1, .int p1)] := hl
  refine lv_aload_n hx hb dX4_unit_0 rfl (lv_at hl 0 rfl) ?_
  refine va_get (D := (dC, dI)) (ci := 4) (v := .int (bI tt)) (C := RX4) (T := TX4) (N := 7) hx hb hts kin_4 hown hK hP 0 rfl rfl 5 (by decide) (hts _ (kcm kwm_165)) (fun _ h9 => h9) rfl dX4_unit_1 ?_
  refine lv_if_ne (tgt := 17) hx hb dX4_unit_4 (by decide) (fun c_4 => ?_) (fun c_4 => ?_)
  · refine lv_iload_n hx hb dX4_unit_17 rfl (lv_at hl 1 rfl) ?_
    by_cases c_18_0 : p1 = 0
    · refine lv_tableIn (off := 46) (tgt := 64) hx hb dX4_unit_18 (by rw [c_18_0]; decide) (by rw [c_18_0]; decide) (by rw [c_18_0]; rfl) (by decide) ?_
      refine lv_aload_n hx hb dX4_unit_64 rfl (lv_at hl 0 rfl) ?_
      refine va_get (D := (dC, dI)) (ci := 4) (v := .ref m0) (C := RX4) (T := TX4) (N := 7) hx hb hts kin_4 hown hK hP 0 rfl rfl 3 (by decide) (hts _ (kcm kwm_130)) (fun _ h9 => h9) rfl dX4_unit_65 ?_
      refine va_getN (D := (dC, dI)) (ci := 2) (v := .int y) (C := RX2) (T := TX2) (N := 8) hx hb hts kin_2 hown hK hP 1 rfl rfl 0 (by decide) (kg_use hG (List.mem_of_getElem? (i := 18) (a := Cond.fieldLinkNest RX4 98 "ClockTexts$Moment" "year" "I" "ClockTexts") rfl)) (fun _ h9 => h9) rfl dX4_unit_68 ?_
      have hF9 : unR tt y mo d hh mi ss k p1 = (0, y) := by
        first | (simp only [unR, if_neg c_4, if_pos c_18_0]; done) | rfl
      have hP9 : va_P (dC, dI) kcl [(x, .inr (4, [.ref t0, .ref w0, .ref r0, .ref m0, .ref k0, .int (bI tt), .int lf])), (m0, .inr (2, [.int y, .int mo, .int d, .int hh, .int mi, .int ss, .ref hp, .int (nI k)]))] s.heap := by
        try rw [hF9]
        exact hP.sub [0, 1] rfl
      have hD9 : va_D A [(x, .inr (4, [.ref t0, .ref w0, .ref r0, .ref m0, .ref k0, .int (bI tt), .int lf])), (m0, .inr (2, [.int y, .int mo, .int d, .int hh, .int mi, .int ss, .ref hp, .int (nI k)]))] := by
        try rw [hF9]
        exact hD.sub [0, 1] (by decide) rfl
      have hv9 : y = (unR tt y mo d hh mi ss k p1).2 := by
        try rw [hF9]
        try rfl
      exact kx_iret hx hb hr hlocks hv9 (by first | rw [hF9] | rfl) hP9 hD9 hS (Nat.le_of_ble_eq_true rfl) (Nat.le_of_ble_eq_true rfl) dX4_unit_71
    · by_cases c_18_1 : p1 = 1
      · refine lv_tableIn (off := 54) (tgt := 72) hx hb dX4_unit_18 (by rw [c_18_1]; decide) (by rw [c_18_1]; decide) (by rw [c_18_1]; rfl) (by decide) ?_
        refine lv_aload_n hx hb dX4_unit_72 rfl (lv_at hl 0 rfl) ?_
        refine va_get (D := (dC, dI)) (ci := 4) (v := .ref m0) (C := RX4) (T := TX4) (N := 7) hx hb hts kin_4 hown hK hP 0 rfl rfl 3 (by decide) (hts _ (kcm kwm_130)) (fun _ h9 => h9) rfl dX4_unit_73 ?_
        refine va_getN (D := (dC, dI)) (ci := 2) (v := .int mo) (C := RX2) (T := TX2) (N := 8) hx hb hts kin_2 hown hK hP 1 rfl rfl 1 (by decide) (kg_use hG (List.mem_of_getElem? (i := 19) (a := Cond.fieldLinkNest RX4 101 "ClockTexts$Moment" "month" "I" "ClockTexts") rfl)) (fun _ h9 => h9) rfl dX4_unit_76 ?_
        have hF9 : unR tt y mo d hh mi ss k p1 = (0, mo) := by
          first | (simp only [unR, if_neg c_4, if_neg c_18_0, if_pos c_18_1]; done) | rfl
        have hP9 : va_P (dC, dI) kcl [(x, .inr (4, [.ref t0, .ref w0, .ref r0, .ref m0, .ref k0, .int (bI tt), .int lf])), (m0, .inr (2, [.int y, .int mo, .int d, .int hh, .int mi, .int ss, .ref hp, .int (nI k)]))] s.heap := by
          try rw [hF9]
          exact hP.sub [0, 1] rfl
        have hD9 : va_D A [(x, .inr (4, [.ref t0, .ref w0, .ref r0, .ref m0, .ref k0, .int (bI tt), .int lf])), (m0, .inr (2, [.int y, .int mo, .int d, .int hh, .int mi, .int ss, .ref hp, .int (nI k)]))] := by
          try rw [hF9]
          exact hD.sub [0, 1] (by decide) rfl
        have hv9 : mo = (unR tt y mo d hh mi ss k p1).2 := by
          try rw [hF9]
          try rfl
        exact kx_iret hx hb hr hlocks hv9 (by first | rw [hF9] | rfl) hP9 hD9 hS (Nat.le_of_ble_eq_true rfl) (Nat.le_of_ble_eq_true rfl) dX4_unit_79
      · by_cases c_18_2 : p1 = 2
        · refine lv_tableIn (off := 62) (tgt := 80) hx hb dX4_unit_18 (by rw [c_18_2]; decide) (by rw [c_18_2]; decide) (by rw [c_18_2]; rfl) (by decide) ?_
          refine lv_aload_n hx hb dX4_unit_80 rfl (lv_at hl 0 rfl) ?_
          refine va_get (D := (dC, dI)) (ci := 4) (v := .ref m0) (C := RX4) (T := TX4) (N := 7) hx hb hts kin_4 hown hK hP 0 rfl rfl 3 (by decide) (hts _ (kcm kwm_130)) (fun _ h9 => h9) rfl dX4_unit_81 ?_
          refine va_getN (D := (dC, dI)) (ci := 2) (v := .int d) (C := RX2) (T := TX2) (N := 8) hx hb hts kin_2 hown hK hP 1 rfl rfl 2 (by decide) (kg_use hG (List.mem_of_getElem? (i := 20) (a := Cond.fieldLinkNest RX4 104 "ClockTexts$Moment" "day" "I" "ClockTexts") rfl)) (fun _ h9 => h9) rfl dX4_unit_84 ?_
          have hF9 : unR tt y mo d hh mi ss k p1 = (0, d) := by
            first | (simp only [unR, if_neg c_4, if_neg c_18_0, if_neg c_18_1, if_pos c_18_2]; done) | rfl
          have hP9 : va_P (dC, dI) kcl [(x, .inr (4, [.ref t0, .ref w0, .ref r0, .ref m0, .ref k0, .int (bI tt), .int lf])), (m0, .inr (2, [.int y, .int mo, .int d, .int hh, .int mi, .int ss, .ref hp, .int (nI k)]))] s.heap := by
            try rw [hF9]
            exact hP.sub [0, 1] rfl
          have hD9 : va_D A [(x, .inr (4, [.ref t0, .ref w0, .ref r0, .ref m0, .ref k0, .int (bI tt), .int lf])), (m0, .inr (2, [.int y, .int mo, .int d, .int hh, .int mi, .int ss, .ref hp, .int (nI k)]))] := by
            try rw [hF9]
            exact hD.sub [0, 1] (by decide) rfl
          have hv9 : d = (unR tt y mo d hh mi ss k p1).2 := by
            try rw [hF9]
            try rfl
          exact kx_iret hx hb hr hlocks hv9 (by first | rw [hF9] | rfl) hP9 hD9 hS (Nat.le_of_ble_eq_true rfl) (Nat.le_of_ble_eq_true rfl) dX4_unit_87
        · by_cases c_18_3 : p1 = 3
          · refine lv_tableIn (off := 70) (tgt := 88) hx hb dX4_unit_18 (by rw [c_18_3]; decide) (by rw [c_18_3]; decide) (by rw [c_18_3]; rfl) (by decide) ?_
            refine lv_aload_n hx hb dX4_unit_88 rfl (lv_at hl 0 rfl) ?_
            refine va_get (D := (dC, dI)) (ci := 4) (v := .ref m0) (C := RX4) (T := TX4) (N := 7) hx hb hts kin_4 hown hK hP 0 rfl rfl 3 (by decide) (hts _ (kcm kwm_130)) (fun _ h9 => h9) rfl dX4_unit_89 ?_
            refine va_getN (D := (dC, dI)) (ci := 2) (v := .int hh) (C := RX2) (T := TX2) (N := 8) hx hb hts kin_2 hown hK hP 1 rfl rfl 3 (by decide) (kg_use hG (List.mem_of_getElem? (i := 21) (a := Cond.fieldLinkNest RX4 107 "ClockTexts$Moment" "hour" "I" "ClockTexts") rfl)) (fun _ h9 => h9) rfl dX4_unit_92 ?_
            have hF9 : unR tt y mo d hh mi ss k p1 = (0, hh) := by
              first | (simp only [unR, if_neg c_4, if_neg c_18_0, if_neg c_18_1, if_neg c_18_2, if_pos c_18_3]; done) | rfl
            have hP9 : va_P (dC, dI) kcl [(x, .inr (4, [.ref t0, .ref w0, .ref r0, .ref m0, .ref k0, .int (bI tt), .int lf])), (m0, .inr (2, [.int y, .int mo, .int d, .int hh, .int mi, .int ss, .ref hp, .int (nI k)]))] s.heap := by
              try rw [hF9]
              exact hP.sub [0, 1] rfl
            have hD9 : va_D A [(x, .inr (4, [.ref t0, .ref w0, .ref r0, .ref m0, .ref k0, .int (bI tt), .int lf])), (m0, .inr (2, [.int y, .int mo, .int d, .int hh, .int mi, .int ss, .ref hp, .int (nI k)]))] := by
              try rw [hF9]
              exact hD.sub [0, 1] (by decide) rfl
            have hv9 : hh = (unR tt y mo d hh mi ss k p1).2 := by
              try rw [hF9]
              try rfl
            exact kx_iret hx hb hr hlocks hv9 (by first | rw [hF9] | rfl) hP9 hD9 hS (Nat.le_of_ble_eq_true rfl) (Nat.le_of_ble_eq_true rfl) dX4_unit_95
          · by_cases c_18_4 : p1 = 4
            · refine lv_tableIn (off := 78) (tgt := 96) hx hb dX4_unit_18 (by rw [c_18_4]; decide) (by rw [c_18_4]; decide) (by rw [c_18_4]; rfl) (by decide) ?_
              refine lv_aload_n hx hb dX4_unit_96 rfl (lv_at hl 0 rfl) ?_
              refine va_get (D := (dC, dI)) (ci := 4) (v := .ref m0) (C := RX4) (T := TX4) (N := 7) hx hb hts kin_4 hown hK hP 0 rfl rfl 3 (by decide) (hts _ (kcm kwm_130)) (fun _ h9 => h9) rfl dX4_unit_97 ?_
              refine va_getN (D := (dC, dI)) (ci := 2) (v := .int mi) (C := RX2) (T := TX2) (N := 8) hx hb hts kin_2 hown hK hP 1 rfl rfl 4 (by decide) (kg_use hG (List.mem_of_getElem? (i := 22) (a := Cond.fieldLinkNest RX4 110 "ClockTexts$Moment" "minute" "I" "ClockTexts") rfl)) (fun _ h9 => h9) rfl dX4_unit_100 ?_
              have hF9 : unR tt y mo d hh mi ss k p1 = (0, mi) := by
                first | (simp only [unR, if_neg c_4, if_neg c_18_0, if_neg c_18_1, if_neg c_18_2, if_neg c_18_3, if_pos c_18_4]; done) | rfl
              have hP9 : va_P (dC, dI) kcl [(x, .inr (4, [.ref t0, .ref w0, .ref r0, .ref m0, .ref k0, .int (bI tt), .int lf])), (m0, .inr (2, [.int y, .int mo, .int d, .int hh, .int mi, .int ss, .ref hp, .int (nI k)]))] s.heap := by
                try rw [hF9]
                exact hP.sub [0, 1] rfl
              have hD9 : va_D A [(x, .inr (4, [.ref t0, .ref w0, .ref r0, .ref m0, .ref k0, .int (bI tt), .int lf])), (m0, .inr (2, [.int y, .int mo, .int d, .int hh, .int mi, .int ss, .ref hp, .int (nI k)]))] := by
                try rw [hF9]
                exact hD.sub [0, 1] (by decide) rfl
              have hv9 : mi = (unR tt y mo d hh mi ss k p1).2 := by
                try rw [hF9]
                try rfl
              exact kx_iret hx hb hr hlocks hv9 (by first | rw [hF9] | rfl) hP9 hD9 hS (Nat.le_of_ble_eq_true rfl) (Nat.le_of_ble_eq_true rfl) dX4_unit_103
            · by_cases c_18_5 : p1 = 5
              · refine lv_tableIn (off := 86) (tgt := 104) hx hb dX4_unit_18 (by rw [c_18_5]; decide) (by rw [c_18_5]; decide) (by rw [c_18_5]; rfl) (by decide) ?_
                refine lv_aload_n hx hb dX4_unit_104 rfl (lv_at hl 0 rfl) ?_
                refine va_get (D := (dC, dI)) (ci := 4) (v := .ref m0) (C := RX4) (T := TX4) (N := 7) hx hb hts kin_4 hown hK hP 0 rfl rfl 3 (by decide) (hts _ (kcm kwm_130)) (fun _ h9 => h9) rfl dX4_unit_105 ?_
                refine va_getN (D := (dC, dI)) (ci := 2) (v := .int ss) (C := RX2) (T := TX2) (N := 8) hx hb hts kin_2 hown hK hP 1 rfl rfl 5 (by decide) (kg_use hG (List.mem_of_getElem? (i := 23) (a := Cond.fieldLinkNest RX4 113 "ClockTexts$Moment" "second" "I" "ClockTexts") rfl)) (fun _ h9 => h9) rfl dX4_unit_108 ?_
                have hF9 : unR tt y mo d hh mi ss k p1 = (0, ss) := by
                  first | (simp only [unR, if_neg c_4, if_neg c_18_0, if_neg c_18_1, if_neg c_18_2, if_neg c_18_3, if_neg c_18_4, if_pos c_18_5]; done) | rfl
                have hP9 : va_P (dC, dI) kcl [(x, .inr (4, [.ref t0, .ref w0, .ref r0, .ref m0, .ref k0, .int (bI tt), .int lf])), (m0, .inr (2, [.int y, .int mo, .int d, .int hh, .int mi, .int ss, .ref hp, .int (nI k)]))] s.heap := by
                  try rw [hF9]
                  exact hP.sub [0, 1] rfl
                have hD9 : va_D A [(x, .inr (4, [.ref t0, .ref w0, .ref r0, .ref m0, .ref k0, .int (bI tt), .int lf])), (m0, .inr (2, [.int y, .int mo, .int d, .int hh, .int mi, .int ss, .ref hp, .int (nI k)]))] := by
                  try rw [hF9]
                  exact hD.sub [0, 1] (by decide) rfl
                have hv9 : ss = (unR tt y mo d hh mi ss k p1).2 := by
                  try rw [hF9]
                  try rfl
                exact kx_iret hx hb hr hlocks hv9 (by first | rw [hF9] | rfl) hP9 hD9 hS (Nat.le_of_ble_eq_true rfl) (Nat.le_of_ble_eq_true rfl) dX4_unit_111
              · by_cases c_18_6 : p1 = 6
                · refine lv_tableIn (off := 94) (tgt := 112) hx hb dX4_unit_18 (by rw [c_18_6]; decide) (by rw [c_18_6]; decide) (by rw [c_18_6]; rfl) (by decide) ?_
                  refine lv_aload_n hx hb dX4_unit_112 rfl (lv_at hl 0 rfl) ?_
                  refine va_get (D := (dC, dI)) (ci := 4) (v := .ref m0) (C := RX4) (T := TX4) (N := 7) hx hb hts kin_4 hown hK hP 0 rfl rfl 3 (by decide) (hts _ (kcm kwm_130)) (fun _ h9 => h9) rfl dX4_unit_113 ?_
                  refine va_getN (D := (dC, dI)) (ci := 2) (v := .int (nI k)) (C := RX2) (T := TX2) (N := 8) hx hb hts kin_2 hown hK hP 1 rfl rfl 7 (by decide) (kg_use hG (List.mem_of_getElem? (i := 24) (a := Cond.fieldLinkNest RX4 116 "ClockTexts$Moment" "partLength" "I" "ClockTexts") rfl)) (fun _ h9 => h9) rfl dX4_unit_116 ?_
                  have hF9 : unR tt y mo d hh mi ss k p1 = (0, nI k) := by
                    first | (simp only [unR, if_neg c_4, if_neg c_18_0, if_neg c_18_1, if_neg c_18_2, if_neg c_18_3, if_neg c_18_4, if_neg c_18_5, if_pos c_18_6]; done) | rfl
                  have hP9 : va_P (dC, dI) kcl [(x, .inr (4, [.ref t0, .ref w0, .ref r0, .ref m0, .ref k0, .int (bI tt), .int lf])), (m0, .inr (2, [.int y, .int mo, .int d, .int hh, .int mi, .int ss, .ref hp, .int (nI k)]))] s.heap := by
                    try rw [hF9]
                    exact hP.sub [0, 1] rfl
                  have hD9 : va_D A [(x, .inr (4, [.ref t0, .ref w0, .ref r0, .ref m0, .ref k0, .int (bI tt), .int lf])), (m0, .inr (2, [.int y, .int mo, .int d, .int hh, .int mi, .int ss, .ref hp, .int (nI k)]))] := by
                    try rw [hF9]
                    exact hD.sub [0, 1] (by decide) rfl
                  have hv9 : nI k = (unR tt y mo d hh mi ss k p1).2 := by
                    try rw [hF9]
                    try rfl
                  exact kx_iret hx hb hr hlocks hv9 (by first | rw [hF9] | rfl) hP9 hD9 hS (Nat.le_of_ble_eq_true rfl) (Nat.le_of_ble_eq_true rfl) dX4_unit_119
                · by_cases c_18_7 : p1 = 7
                  · refine lv_tableIn (off := 102) (tgt := 120) hx hb dX4_unit_18 (by rw [c_18_7]; decide) (by rw [c_18_7]; decide) (by rw [c_18_7]; rfl) (by decide) ?_
                    refine lv_aload_n hx hb dX4_unit_120 rfl (lv_at hl 0 rfl) ?_
                    refine va_get (D := (dC, dI)) (ci := 4) (v := .ref m0) (C := RX4) (T := TX4) (N := 7) hx hb hts kin_4 hown hK hP 0 rfl rfl 3 (by decide) (hts _ (kcm kwm_130)) (fun _ h9 => h9) rfl dX4_unit_121 ?_
                    have hPc := hP.sub (ws' := [(m0, .inr (2, [.int y, .int mo, .int d, .int hh, .int mi, .int ss, .ref hp, .int (nI k)]))]) [1] rfl
                    have hDc := hD.sub (ws' := [(m0, .inr (2, [.int y, .int mo, .int d, .int hh, .int mi, .int ss, .ref hp, .int (nI k)]))]) [1] (by decide) rfl
                    have hKc := hK.sub (tys' := []) [] rfl
                    have hFc := va_free (wc := [(m0, .inr (2, [.int y, .int mo, .int d, .int hh, .int mi, .int ss, .ref hp, .int (nI k)]))]) hD hS hA [1] rfl
                    refine kc_callSi (val := dayWk y mo d) (va_runV (As := []) (rest := []) ⟨hx, hb, hml, hown, hts⟩ (c_Mo_dayOfWeek l dC dI st s.heap.size m0 y mo d hh mi ss hp k ) (cwV 0 hts (kwV kwm_179 kwm_180 kwm_181 kwm_21 kwm_178) rfl rfl rfl (by decide +kernel) ⟨Nat.le_of_ble_eq_true rfl, Nat.le_of_ble_eq_true rfl⟩) ⟨kc_blind, va_recv hKc hPc (ci := 2) (q0 := 0) rfl rfl, kc_pre hG hS hFc hKc hPc hDc⟩ rfl rfl hl.1 rfl (lv_room (Nat.le_of_ble_eq_true rfl)) dX4_unit_124 ⟨Nat.le_of_ble_eq_true rfl, Nat.le_of_ble_eq_true rfl⟩) ?_
                    have hF9 : unR tt y mo d hh mi ss k p1 = (0, dayWk y mo d) := by
                      first | (simp only [unR, if_neg c_4, if_neg c_18_0, if_neg c_18_1, if_neg c_18_2, if_neg c_18_3, if_neg c_18_4, if_neg c_18_5, if_neg c_18_6, if_pos c_18_7]; done) | rfl
                    have hP9 : va_P (dC, dI) kcl [(x, .inr (4, [.ref t0, .ref w0, .ref r0, .ref m0, .ref k0, .int (bI tt), .int lf])), (m0, .inr (2, [.int y, .int mo, .int d, .int hh, .int mi, .int ss, .ref hp, .int (nI k)]))] s.heap := by
                      try rw [hF9]
                      exact hP.sub [0, 1] rfl
                    have hD9 : va_D A [(x, .inr (4, [.ref t0, .ref w0, .ref r0, .ref m0, .ref k0, .int (bI tt), .int lf])), (m0, .inr (2, [.int y, .int mo, .int d, .int hh, .int mi, .int ss, .ref hp, .int (nI k)]))] := by
                      try rw [hF9]
                      exact hD.sub [0, 1] (by decide) rfl
                    have hv9 : dayWk y mo d = (unR tt y mo d hh mi ss k p1).2 := by
                      try rw [hF9]
                      try rfl
                    exact kx_iret hx hb hr hlocks hv9 (by first | rw [hF9] | rfl) hP9 hD9 hS (Nat.le_of_ble_eq_true rfl) (Nat.le_of_ble_eq_true rfl) dX4_unit_127
                  · refine lv_tableOut (tgt := 128) hx hb dX4_unit_18 (by have h0 := lv_neT c_18_0 (a := 0) (by decide); have h1 := lv_neT c_18_1 (a := 1) (by decide); have h2 := lv_neT c_18_2 (a := 2) (by decide); have h3 := lv_neT c_18_3 (a := 3) (by decide); have h4 := lv_neT c_18_4 (a := 4) (by decide); have h5 := lv_neT c_18_5 (a := 5) (by decide); have h6 := lv_neT c_18_6 (a := 6) (by decide); have h7 := lv_neT c_18_7 (a := 7) (by decide); omega) (by decide) ?_
                    have hF9 : unR tt y mo d hh mi ss k p1 = (3, 0) := by
                      first | (simp only [unR, if_neg c_4, if_neg c_18_0, if_neg c_18_1, if_neg c_18_2, if_neg c_18_3, if_neg c_18_4, if_neg c_18_5, if_neg c_18_6, if_neg c_18_7]; done) | rfl
                    have hP9 : va_P (dC, dI) kcl [(x, .inr (4, [.ref t0, .ref w0, .ref r0, .ref m0, .ref k0, .int (bI tt), .int lf])), (m0, .inr (2, [.int y, .int mo, .int d, .int hh, .int mi, .int ss, .ref hp, .int (nI k)]))] s.heap := by
                      try rw [hF9]
                      exact hP.sub [0, 1] rfl
                    have hD9 : va_D A [(x, .inr (4, [.ref t0, .ref w0, .ref r0, .ref m0, .ref k0, .int (bI tt), .int lf])), (m0, .inr (2, [.int y, .int mo, .int d, .int hh, .int mi, .int ss, .ref hp, .int (nI k)]))] := by
                      try rw [hF9]
                      exact hD.sub [0, 1] (by decide) rfl
                    obtain ⟨sa9, hsa9⟩ := kg_str hG (List.mem_of_getElem? (i := 5) (a := (RX4, 123, "there is no such unit")) rfl)
                    exact vx_throwS (own := RX4) (cls := "java/lang/IndexOutOfBoundsException") (names := ["java/lang/RuntimeException", "java/lang/Exception"]) hx hb hl9 hown (by decide +kernel) (by decide +kernel) (hts _ (kcm kwm_175)) (hts _ (kcm kwm_176)) hsa9 (kg_hat hG (L := vx_atS RX4 84 "java/lang/IndexOutOfBoundsException" ["java/lang/RuntimeException", "java/lang/Exception"]) (fun w hw => hts w ((by decide +kernel : ∀ w ∈ (vx_atS RX4 84 "java/lang/IndexOutOfBoundsException" ["java/lang/RuntimeException", "java/lang/Exception"]).filter goodWord, w ∈ wsX4_unit) w hw)) (by decide +kernel)) (by decide +kernel) (kg_U hG) (kg_V hG) hS (hl.1.trans hml.symm) dX4_unit_128 dX4_unit_131 dX4_unit_132 dX4_unit_134 dX4_unit_137 (fun x h9 => (hex x h9).elim) (Nat.le_of_ble_eq_true rfl) (Nat.le_of_ble_eq_true rfl) (Nat.le_of_ble_eq_true rfl) (Nat.le_of_ble_eq_true rfl) hlocks (kx_made (by rw [hF9]; exact (show (3 : Nat) ≠ 0 by decide)) (by rw [hF9]; rfl) hP9 hD9 hS) hS.2.2 (Nat.le_of_ble_eq_true rfl) (Nat.le_of_ble_eq_true rfl)
  · have hF9 : unR tt y mo d hh mi ss k p1 = (1, 0) := by
      first | (simp only [unR, if_pos c_4]; done) | rfl
    have hP9 : va_P (dC, dI) kcl [(x, .inr (4, [.ref t0, .ref w0, .ref r0, .ref m0, .ref k0, .int (bI tt), .int lf])), (m0, .inr (2, [.int y, .int mo, .int d, .int hh, .int mi, .int ss, .ref hp, .int (nI k)]))] s.heap := by
      try rw [hF9]
      exact hP.sub [0, 1] rfl
    have hD9 : va_D A [(x, .inr (4, [.ref t0, .ref w0, .ref r0, .ref m0, .ref k0, .int (bI tt), .int lf])), (m0, .inr (2, [.int y, .int mo, .int d, .int hh, .int mi, .int ss, .ref hp, .int (nI k)]))] := by
      try rw [hF9]
      exact hD.sub [0, 1] (by decide) rfl
    obtain ⟨sa9, hsa9⟩ := kg_str hG (List.mem_of_getElem? (i := 4) (a := (RX4, 89, "there is no time")) rfl)
    exact vx_throwS (own := RX4) (cls := "java/lang/IllegalStateException") (names := ["java/lang/RuntimeException", "java/lang/Exception"]) hx hb hl9 hown (by decide +kernel) (by decide +kernel) (hts _ (kcm kwm_171)) (hts _ (kcm kwm_172)) hsa9 (kg_hat hG (L := vx_atS RX4 55 "java/lang/IllegalStateException" ["java/lang/RuntimeException", "java/lang/Exception"]) (fun w hw => hts w ((by decide +kernel : ∀ w ∈ (vx_atS RX4 55 "java/lang/IllegalStateException" ["java/lang/RuntimeException", "java/lang/Exception"]).filter goodWord, w ∈ wsX4_unit) w hw)) (by decide +kernel)) (by decide +kernel) (kg_U hG) (kg_V hG) hS (hl.1.trans hml.symm) dX4_unit_7 dX4_unit_10 dX4_unit_11 dX4_unit_13 dX4_unit_16 (fun x h9 => (hex x h9).elim) (Nat.le_of_ble_eq_true rfl) (Nat.le_of_ble_eq_true rfl) (Nat.le_of_ble_eq_true rfl) (Nat.le_of_ble_eq_true rfl) hlocks (kx_made (by rw [hF9]; exact (show (1 : Nat) ≠ 0 by decide)) (by rw [hF9]; rfl) hP9 hD9 hS) hS.2.2 (Nat.le_of_ble_eq_true rfl) (Nat.le_of_ble_eq_true rfl)
def odR (z : Nat) (OD : Nat → Int32) (p1 : Int32) : Nat × Int32 :=
  if (bI (kHas z p1)) = 0 then
    (3, 0)
  else
    (0, OD p1.toNatClampNeg)
set_option maxHeartbeats 4000000 in
set_option maxRecDepth 100000 in
theorem c_CT_order (l : Launch) (hl9 : l.stackTraces = false) (dC : Nat → ClassId) (dI : Nat → Nat → Nat) (st sz : Nat) (x : Nat) (t0 : Nat) (w0 : Nat) (r0 : Nat) (m0 : Nat) (k0 : Nat) (tt : Bool) (lf : Int32) (aw : Nat) (al : Nat) (ap : Nat) (ao : Nat) (z : Nat) (cO : ClassId) (OD : Nat → Int32) (p1 : Int32) (hz0 : z ≤ 40) : vx_Met l yX4_order wsX4_order ({ frames := 6, cells := 1, slots := 6, locals := 90 }) (kc_Pc (dC, dI) kcl st sz [.ref x, .int p1] [(x, .inr (4, [.ref t0, .ref w0, .ref r0, .ref m0, .ref k0, .int (bI tt), .int lf])), (k0, .inr (1, [.ref aw, .ref al, .ref ap, .ref ao, .int (nI z)])), (ao, .inl (cO, 40, .inl OD))] [(cO, .int)]) (kx_Qi (dC, dI) kcl (odR z OD p1).1 (odR z OD p1).2 [(x, .inr (4, [.ref t0, .ref w0, .ref r0, .ref m0, .ref k0, .int (bI tt), .int lf])), (k0, .inr (1, [.ref aw, .ref al, .ref ap, .ref ao, .int (nI z)])), (ao, .inl (cO, 40, .inl OD))] (va_A [(x, .inr (4, [.ref t0, .ref w0, .ref r0, .ref m0, .ref k0, .int (bI tt), .int lf])), (k0, .inr (1, [.ref aw, .ref al, .ref ap, .ref ao, .int (nI z)])), (ao, .inl (cO, 40, .inl OD))] sz)) (kx_X (dC, dI) kcl (odR z OD p1).1 [(x, .inr (4, [.ref t0, .ref w0, .ref r0, .ref m0, .ref k0, .int (bI tt), .int lf])), (k0, .inr (1, [.ref aw, .ref al, .ref ap, .ref ao, .int (nI z)])), (ao, .inl (cO, 40, .inl OD))] (va_A [(x, .inr (4, [.ref t0, .ref w0, .ref r0, .ref m0, .ref k0, .int (bI tt), .int lf])), (k0, .inr (1, [.ref aw, .ref al, .ref ap, .ref ao, .int (nI z)])), (ao, .inl (cO, 40, .inl OD))] sz)) 1 6 (va_A [(x, .inr (4, [.ref t0, .ref w0, .ref r0, .ref m0, .ref k0, .int (bI tt), .int lf])), (k0, .inr (1, [.ref aw, .ref al, .ref ap, .ref ao, .int (nI z)])), (ao, .inl (cO, 40, .inl OD))] sz) := by
  refine kx_ofW (Qc := fun A => (kx_Qi (dC, dI) kcl (odR z OD p1).1 (odR z OD p1).2 [(x, .inr (4, [.ref t0, .ref w0, .ref r0, .ref m0, .ref k0, .int (bI tt), .int lf])), (k0, .inr (1, [.ref aw, .ref al, .ref ap, .ref ao, .int (nI z)])), (ao, .inl (cO, 40, .inl OD))] A)) (XC := fun A => kx_X (dC, dI) kcl (odR z OD p1).1 [(x, .inr (4, [.ref t0, .ref w0, .ref r0, .ref m0, .ref k0, .int (bI tt), .int lf])), (k0, .inr (1, [.ref aw, .ref al, .ref ap, .ref ao, .int (nI z)])), (ao, .inl (cO, 40, .inl OD))] A) (cc := cX4_order) (maxL := 2) (ret := (some .int)) (by decide) rfl (Nat.le_of_ble_eq_true rfl) ?_
  intro p e s m below meth c A ls Cx hex hA hG hK hP hD hS hl
  obtain ⟨hx, hb, hr, hml, hown, hts, hlocks, hnm⟩ := id Cx
  have hl : lv_has ls 2 [(0, .ref x), (1, .int p1)] := hl
  refine lv_aload_n hx hb dX4_order_0 rfl (lv_at hl 0 rfl) ?_
  refine va_get (D := (dC, dI)) (ci := 4) (v := .ref k0) (C := RX4) (T := TX4) (N := 7) hx hb hts kin_4 hown hK hP 0 rfl rfl 4 (by decide) (hts _ (kcm kwm_134)) (fun _ h9 => h9) rfl dX4_order_1 ?_
  refine lv_iload_n hx hb dX4_order_4 rfl (lv_at hl 1 rfl) ?_
  have hPc := hP.sub (ws' := [(k0, .inr (1, [.ref aw, .ref al, .ref ap, .ref ao, .int (nI z)]))]) [1] rfl
  have hDc := hD.sub (ws' := [(k0, .inr (1, [.ref aw, .ref al, .ref ap, .ref ao, .int (nI z)]))]) [1] (by decide) rfl
  have hKc := hK.sub (tys' := []) [] rfl
  have hFc := va_free (wc := [(k0, .inr (1, [.ref aw, .ref al, .ref ap, .ref ao, .int (nI z)]))]) hD hS hA [1] rfl
  refine kc_callSi (val := bI (kHas z p1)) (va_runV (As := [.int p1]) (rest := []) ⟨hx, hb, hml, hown, hts⟩ (c_Kp_has l dC dI st s.heap.size k0 aw al ap ao z p1 ) (cwV 1 hts (kwV kwm_183 kwm_184 kwm_185 kwm_115 kwm_182) rfl rfl rfl (by decide +kernel) ⟨Nat.le_of_ble_eq_true rfl, Nat.le_of_ble_eq_true rfl⟩) ⟨kc_blind, va_recv hKc hPc (ci := 1) (q0 := 0) rfl rfl, kc_pre hG hS hFc hKc hPc hDc⟩ rfl rfl hl.1 rfl (lv_room (Nat.le_of_ble_eq_true rfl)) dX4_order_5 ⟨Nat.le_of_ble_eq_true rfl, Nat.le_of_ble_eq_true rfl⟩) ?_
  refine lv_if_ne (tgt := 21) hx hb dX4_order_8 (by decide) (fun c_8 => ?_) (fun c_8 => ?_)
  · refine lv_aload_n hx hb dX4_order_21 rfl (lv_at hl 0 rfl) ?_
    refine va_get (D := (dC, dI)) (ci := 4) (v := .ref k0) (C := RX4) (T := TX4) (N := 7) hx hb hts kin_4 hown hK hP 0 rfl rfl 4 (by decide) (hts _ (kcm kwm_134)) (fun _ h9 => h9) rfl dX4_order_22 ?_
    refine va_getN (D := (dC, dI)) (ci := 1) (v := .ref ao) (C := RX1) (T := TX1) (N := 5) hx hb hts kin_1 hown hK hP 1 rfl rfl 3 (by decide) (kg_use hG (List.mem_of_getElem? (i := 17) (a := Cond.fieldLinkNest RX4 143 "ClockTexts$KeptTimes" "inOrder" "[I" "ClockTexts") rfl)) (fun _ h9 => h9) rfl dX4_order_25 ?_
    refine lv_iload_n hx hb dX4_order_28 rfl (lv_at hl 1 rfl) ?_
    refine va_iald hx hb hK hP 2 0 rfl rfl (kHas_in c_8 hz0) dX4_order_29 ?_
    have hF9 : odR z OD p1 = (0, OD p1.toNatClampNeg) := by
      first | (simp only [odR, if_neg c_8]; done) | rfl
    have hP9 : va_P (dC, dI) kcl [(x, .inr (4, [.ref t0, .ref w0, .ref r0, .ref m0, .ref k0, .int (bI tt), .int lf])), (k0, .inr (1, [.ref aw, .ref al, .ref ap, .ref ao, .int (nI z)])), (ao, .inl (cO, 40, .inl OD))] s.heap := by
      try rw [hF9]
      exact hP.sub [0, 1, 2] rfl
    have hD9 : va_D A [(x, .inr (4, [.ref t0, .ref w0, .ref r0, .ref m0, .ref k0, .int (bI tt), .int lf])), (k0, .inr (1, [.ref aw, .ref al, .ref ap, .ref ao, .int (nI z)])), (ao, .inl (cO, 40, .inl OD))] := by
      try rw [hF9]
      exact hD.sub [0, 1, 2] (by decide) rfl
    have hv9 : OD p1.toNatClampNeg = (odR z OD p1).2 := by
      try rw [hF9]
      try rfl
    exact kx_iret hx hb hr hlocks hv9 (by first | rw [hF9] | rfl) hP9 hD9 hS (Nat.le_of_ble_eq_true rfl) (Nat.le_of_ble_eq_true rfl) dX4_order_30
  · have hF9 : odR z OD p1 = (3, 0) := by
      first | (simp only [odR, if_pos c_8]; done) | rfl
    have hP9 : va_P (dC, dI) kcl [(x, .inr (4, [.ref t0, .ref w0, .ref r0, .ref m0, .ref k0, .int (bI tt), .int lf])), (k0, .inr (1, [.ref aw, .ref al, .ref ap, .ref ao, .int (nI z)])), (ao, .inl (cO, 40, .inl OD))] s.heap := by
      try rw [hF9]
      exact hP.sub [0, 1, 2] rfl
    have hD9 : va_D A [(x, .inr (4, [.ref t0, .ref w0, .ref r0, .ref m0, .ref k0, .int (bI tt), .int lf])), (k0, .inr (1, [.ref aw, .ref al, .ref ap, .ref ao, .int (nI z)])), (ao, .inl (cO, 40, .inl OD))] := by
      try rw [hF9]
      exact hD.sub [0, 1, 2] (by decide) rfl
    obtain ⟨sa9, hsa9⟩ := kg_str hG (List.mem_of_getElem? (i := 6) (a := (RX4, 141, "so many times are not kept")) rfl)
    exact vx_throwS (own := RX4) (cls := "java/lang/IndexOutOfBoundsException") (names := ["java/lang/RuntimeException", "java/lang/Exception"]) hx hb hl9 hown (by decide +kernel) (by decide +kernel) (hts _ (kcm kwm_175)) (hts _ (kcm kwm_176)) hsa9 (kg_hat hG (L := vx_atS RX4 84 "java/lang/IndexOutOfBoundsException" ["java/lang/RuntimeException", "java/lang/Exception"]) (fun w hw => hts w ((by decide +kernel : ∀ w ∈ (vx_atS RX4 84 "java/lang/IndexOutOfBoundsException" ["java/lang/RuntimeException", "java/lang/Exception"]).filter goodWord, w ∈ wsX4_order) w hw)) (by decide +kernel)) (by decide +kernel) (kg_U hG) (kg_V hG) hS (hl.1.trans hml.symm) dX4_order_11 dX4_order_14 dX4_order_15 dX4_order_17 dX4_order_20 (fun x h9 => (hex x h9).elim) (Nat.le_of_ble_eq_true rfl) (Nat.le_of_ble_eq_true rfl) (Nat.le_of_ble_eq_true rfl) (Nat.le_of_ble_eq_true rfl) hlocks (kx_made (by rw [hF9]; exact (show (3 : Nat) ≠ 0 by decide)) (by rw [hF9]; rfl) hP9 hD9 hS) hS.2.2 (Nat.le_of_ble_eq_true rfl) (Nat.le_of_ble_eq_true rfl)
def btR (z : Nat) (WS : Nat → Int64) (p1 p2 : Int32) : Nat × Int64 :=
  if (bI (kHas z p1)) = 0 then
    (3, 0)
  else
    if (bI (kHas z p2)) = 0 then
      (3, 0)
    else
      (0, (WS p2.toNatClampNeg) - (WS p1.toNatClampNeg))
set_option maxHeartbeats 4000000 in
set_option maxRecDepth 100000 in
theorem c_CT_between (l : Launch) (hl9 : l.stackTraces = false) (dC : Nat → ClassId) (dI : Nat → Nat → Nat) (st sz : Nat) (x : Nat) (t0 : Nat) (w0 : Nat) (r0 : Nat) (m0 : Nat) (k0 : Nat) (tt : Bool) (lf : Int32) (aw : Nat) (al : Nat) (ap : Nat) (ao : Nat) (z : Nat) (cW : ClassId) (WS : Nat → Int64) (p1 : Int32) (p2 : Int32) (hz0 : z ≤ 40) : vx_Met l yX4_between wsX4_between ({ frames := 6, cells := 1, slots := 6, locals := 90 }) (kc_Pc (dC, dI) kcl st sz [.ref x, .int p1, .int p2] [(x, .inr (4, [.ref t0, .ref w0, .ref r0, .ref m0, .ref k0, .int (bI tt), .int lf])), (k0, .inr (1, [.ref aw, .ref al, .ref ap, .ref ao, .int (nI z)])), (aw, .inl (cW, 40, .inr (.inl WS)))] [(cW, .long)]) (kx_Ql (dC, dI) kcl (btR z WS p1 p2).1 (btR z WS p1 p2).2 [(x, .inr (4, [.ref t0, .ref w0, .ref r0, .ref m0, .ref k0, .int (bI tt), .int lf])), (k0, .inr (1, [.ref aw, .ref al, .ref ap, .ref ao, .int (nI z)])), (aw, .inl (cW, 40, .inr (.inl WS)))] (va_A [(x, .inr (4, [.ref t0, .ref w0, .ref r0, .ref m0, .ref k0, .int (bI tt), .int lf])), (k0, .inr (1, [.ref aw, .ref al, .ref ap, .ref ao, .int (nI z)])), (aw, .inl (cW, 40, .inr (.inl WS)))] sz)) (kx_X (dC, dI) kcl (btR z WS p1 p2).1 [(x, .inr (4, [.ref t0, .ref w0, .ref r0, .ref m0, .ref k0, .int (bI tt), .int lf])), (k0, .inr (1, [.ref aw, .ref al, .ref ap, .ref ao, .int (nI z)])), (aw, .inl (cW, 40, .inr (.inl WS)))] (va_A [(x, .inr (4, [.ref t0, .ref w0, .ref r0, .ref m0, .ref k0, .int (bI tt), .int lf])), (k0, .inr (1, [.ref aw, .ref al, .ref ap, .ref ao, .int (nI z)])), (aw, .inl (cW, 40, .inr (.inl WS)))] sz)) 1 6 (va_A [(x, .inr (4, [.ref t0, .ref w0, .ref r0, .ref m0, .ref k0, .int (bI tt), .int lf])), (k0, .inr (1, [.ref aw, .ref al, .ref ap, .ref ao, .int (nI z)])), (aw, .inl (cW, 40, .inr (.inl WS)))] sz) := by
  refine kx_ofW (Qc := fun A => (kx_Ql (dC, dI) kcl (btR z WS p1 p2).1 (btR z WS p1 p2).2 [(x, .inr (4, [.ref t0, .ref w0, .ref r0, .ref m0, .ref k0, .int (bI tt), .int lf])), (k0, .inr (1, [.ref aw, .ref al, .ref ap, .ref ao, .int (nI z)])), (aw, .inl (cW, 40, .inr (.inl WS)))] A)) (XC := fun A => kx_X (dC, dI) kcl (btR z WS p1 p2).1 [(x, .inr (4, [.ref t0, .ref w0, .ref r0, .ref m0, .ref k0, .int (bI tt), .int lf])), (k0, .inr (1, [.ref aw, .ref al, .ref ap, .ref ao, .int (nI z)])), (aw, .inl (cW, 40, .inr (.inl WS)))] A) (cc := cX4_between) (maxL := 3) (ret := (some .long)) (by decide) rfl (Nat.le_of_ble_eq_true rfl) ?_
  intro p e s m below meth c A ls Cx hex hA hG hK hP hD hS hl
  obtain ⟨hx, hb, hr, hml, hown, hts, hlocks, hnm⟩ := id Cx
  have hl : lv_has ls 3 [(0, .ref x), (1, .int p1), (2, .int p2)] := hl
  refine lv_aload_n hx hb dX4_between_0 rfl (lv_at hl 0 rfl) ?_
  refine va_get (D := (dC, dI)) (ci := 4) (v := .ref k0) (C := RX4) (T := TX4) (N := 7) hx hb hts kin_4 hown hK hP 0 rfl rfl 4 (by decide) (hts _ (kcm kwm_134)) (fun _ h9 => h9) rfl dX4_between_1 ?_
  refine lv_iload_n hx hb dX4_between_4 rfl (lv_at hl 1 rfl) ?_
  have hPc := hP.sub (ws' := [(k0, .inr (1, [.ref aw, .ref al, .ref ap, .ref ao, .int (nI z)]))]) [1] rfl
  have hDc := hD.sub (ws' := [(k0, .inr (1, [.ref aw, .ref al, .ref ap, .ref ao, .int (nI z)]))]) [1] (by decide) rfl
  have hKc := hK.sub (tys' := []) [] rfl
  have hFc := va_free (wc := [(k0, .inr (1, [.ref aw, .ref al, .ref ap, .ref ao, .int (nI z)]))]) hD hS hA [1] rfl
  refine kc_callSi (val := bI (kHas z p1)) (va_runV (As := [.int p1]) (rest := []) ⟨hx, hb, hml, hown, hts⟩ (c_Kp_has l dC dI st s.heap.size k0 aw al ap ao z p1 ) (cwV 1 hts (kwV kwm_183 kwm_184 kwm_185 kwm_115 kwm_182) rfl rfl rfl (by decide +kernel) ⟨Nat.le_of_ble_eq_true rfl, Nat.le_of_ble_eq_true rfl⟩) ⟨kc_blind, va_recv hKc hPc (ci := 1) (q0 := 0) rfl rfl, kc_pre hG hS hFc hKc hPc hDc⟩ rfl rfl hl.1 rfl (lv_room (Nat.le_of_ble_eq_true rfl)) dX4_between_5 ⟨Nat.le_of_ble_eq_true rfl, Nat.le_of_ble_eq_true rfl⟩) ?_
  refine lv_if_eq (tgt := 22) hx hb dX4_between_8 (by decide) (fun c_8 => ?_) (fun c_8 => ?_)
  · have hF9 : btR z WS p1 p2 = (3, 0) := by
      first | (simp only [btR, if_pos c_8]; done) | rfl
    have hP9 : va_P (dC, dI) kcl [(x, .inr (4, [.ref t0, .ref w0, .ref r0, .ref m0, .ref k0, .int (bI tt), .int lf])), (k0, .inr (1, [.ref aw, .ref al, .ref ap, .ref ao, .int (nI z)])), (aw, .inl (cW, 40, .inr (.inl WS)))] s.heap := by
      try rw [hF9]
      exact hP.sub [0, 1, 2] rfl
    have hD9 : va_D A [(x, .inr (4, [.ref t0, .ref w0, .ref r0, .ref m0, .ref k0, .int (bI tt), .int lf])), (k0, .inr (1, [.ref aw, .ref al, .ref ap, .ref ao, .int (nI z)])), (aw, .inl (cW, 40, .inr (.inl WS)))] := by
      try rw [hF9]
      exact hD.sub [0, 1, 2] (by decide) rfl
    obtain ⟨sa9, hsa9⟩ := kg_str hG (List.mem_of_getElem? (i := 7) (a := (RX4, 147, "there is no kept time of such a number")) rfl)
    exact vx_throwS (own := RX4) (cls := "java/lang/IndexOutOfBoundsException") (names := ["java/lang/RuntimeException", "java/lang/Exception"]) hx hb hl9 hown (by decide +kernel) (by decide +kernel) (hts _ (kcm kwm_175)) (hts _ (kcm kwm_176)) hsa9 (kg_hat hG (L := vx_atS RX4 84 "java/lang/IndexOutOfBoundsException" ["java/lang/RuntimeException", "java/lang/Exception"]) (fun w hw => hts w ((by decide +kernel : ∀ w ∈ (vx_atS RX4 84 "java/lang/IndexOutOfBoundsException" ["java/lang/RuntimeException", "java/lang/Exception"]).filter goodWord, w ∈ wsX4_between) w hw)) (by decide +kernel)) (by decide +kernel) (kg_U hG) (kg_V hG) hS (hl.1.trans hml.symm) dX4_between_22 dX4_between_25 dX4_between_26 dX4_between_28 dX4_between_31 (fun x h9 => (hex x h9).elim) (Nat.le_of_ble_eq_true rfl) (Nat.le_of_ble_eq_true rfl) (Nat.le_of_ble_eq_true rfl) (Nat.le_of_ble_eq_true rfl) hlocks (kx_made (by rw [hF9]; exact (show (3 : Nat) ≠ 0 by decide)) (by rw [hF9]; rfl) hP9 hD9 hS) hS.2.2 (Nat.le_of_ble_eq_true rfl) (Nat.le_of_ble_eq_true rfl)
  · refine lv_aload_n hx hb dX4_between_11 rfl (lv_at hl 0 rfl) ?_
    refine va_get (D := (dC, dI)) (ci := 4) (v := .ref k0) (C := RX4) (T := TX4) (N := 7) hx hb hts kin_4 hown hK hP 0 rfl rfl 4 (by decide) (hts _ (kcm kwm_134)) (fun _ h9 => h9) rfl dX4_between_12 ?_
    refine lv_iload_n hx hb dX4_between_15 rfl (lv_at hl 2 rfl) ?_
    have hPc := hP.sub (ws' := [(k0, .inr (1, [.ref aw, .ref al, .ref ap, .ref ao, .int (nI z)]))]) [1] rfl
    have hDc := hD.sub (ws' := [(k0, .inr (1, [.ref aw, .ref al, .ref ap, .ref ao, .int (nI z)]))]) [1] (by decide) rfl
    have hKc := hK.sub (tys' := []) [] rfl
    have hFc := va_free (wc := [(k0, .inr (1, [.ref aw, .ref al, .ref ap, .ref ao, .int (nI z)]))]) hD hS hA [1] rfl
    refine kc_callSi (val := bI (kHas z p2)) (va_runV (As := [.int p2]) (rest := []) ⟨hx, hb, hml, hown, hts⟩ (c_Kp_has l dC dI st s.heap.size k0 aw al ap ao z p2 ) (cwV 1 hts (kwV kwm_183 kwm_184 kwm_185 kwm_115 kwm_182) rfl rfl rfl (by decide +kernel) ⟨Nat.le_of_ble_eq_true rfl, Nat.le_of_ble_eq_true rfl⟩) ⟨kc_blind, va_recv hKc hPc (ci := 1) (q0 := 0) rfl rfl, kc_pre hG hS hFc hKc hPc hDc⟩ rfl rfl hl.1 rfl (lv_room (Nat.le_of_ble_eq_true rfl)) dX4_between_16 ⟨Nat.le_of_ble_eq_true rfl, Nat.le_of_ble_eq_true rfl⟩) ?_
    refine lv_if_ne (tgt := 32) hx hb dX4_between_19 (by decide) (fun c_19 => ?_) (fun c_19 => ?_)
    · refine lv_aload_n hx hb dX4_between_32 rfl (lv_at hl 0 rfl) ?_
      refine va_get (D := (dC, dI)) (ci := 4) (v := .ref k0) (C := RX4) (T := TX4) (N := 7) hx hb hts kin_4 hown hK hP 0 rfl rfl 4 (by decide) (hts _ (kcm kwm_134)) (fun _ h9 => h9) rfl dX4_between_33 ?_
      refine va_getN (D := (dC, dI)) (ci := 1) (v := .ref aw) (C := RX1) (T := TX1) (N := 5) hx hb hts kin_1 hown hK hP 1 rfl rfl 0 (by decide) (kg_use hG (List.mem_of_getElem? (i := 15) (a := Cond.fieldLinkNest RX4 149 "ClockTexts$KeptTimes" "wholeSeconds" "[J" "ClockTexts") rfl)) (fun _ h9 => h9) rfl dX4_between_36 ?_
      refine lv_iload_n hx hb dX4_between_39 rfl (lv_at hl 2 rfl) ?_
      refine va_lald hx hb hK hP 2 0 rfl rfl (kHas_in c_19 hz0) dX4_between_40 ?_
      refine lv_aload_n hx hb dX4_between_41 rfl (lv_at hl 0 rfl) ?_
      refine va_get (D := (dC, dI)) (ci := 4) (v := .ref k0) (C := RX4) (T := TX4) (N := 7) hx hb hts kin_4 hown hK hP 0 rfl rfl 4 (by decide) (hts _ (kcm kwm_134)) (fun _ h9 => h9) rfl dX4_between_42 ?_
      refine va_getN (D := (dC, dI)) (ci := 1) (v := .ref aw) (C := RX1) (T := TX1) (N := 5) hx hb hts kin_1 hown hK hP 1 rfl rfl 0 (by decide) (kg_use hG (List.mem_of_getElem? (i := 15) (a := Cond.fieldLinkNest RX4 149 "ClockTexts$KeptTimes" "wholeSeconds" "[J" "ClockTexts") rfl)) (fun _ h9 => h9) rfl dX4_between_45 ?_
      refine lv_iload_n hx hb dX4_between_48 rfl (lv_at hl 1 rfl) ?_
      refine va_lald hx hb hK hP 2 0 rfl rfl (kHas_in c_8 hz0) dX4_between_49 ?_
      refine lv_lsub hx hb dX4_between_50 ?_
      have hF9 : btR z WS p1 p2 = (0, (WS p2.toNatClampNeg) - (WS p1.toNatClampNeg)) := by
        first | (simp only [btR, if_neg c_8, if_neg c_19]; done) | rfl
      have hP9 : va_P (dC, dI) kcl [(x, .inr (4, [.ref t0, .ref w0, .ref r0, .ref m0, .ref k0, .int (bI tt), .int lf])), (k0, .inr (1, [.ref aw, .ref al, .ref ap, .ref ao, .int (nI z)])), (aw, .inl (cW, 40, .inr (.inl WS)))] s.heap := by
        try rw [hF9]
        exact hP.sub [0, 1, 2] rfl
      have hD9 : va_D A [(x, .inr (4, [.ref t0, .ref w0, .ref r0, .ref m0, .ref k0, .int (bI tt), .int lf])), (k0, .inr (1, [.ref aw, .ref al, .ref ap, .ref ao, .int (nI z)])), (aw, .inl (cW, 40, .inr (.inl WS)))] := by
        try rw [hF9]
        exact hD.sub [0, 1, 2] (by decide) rfl
      have hv9 : (WS p2.toNatClampNeg) - (WS p1.toNatClampNeg) = (btR z WS p1 p2).2 := by
        try rw [hF9]
        try rfl
      exact kx_lret hx hb hr hlocks hv9 (by first | rw [hF9] | rfl) hP9 hD9 hS (Nat.le_of_ble_eq_true rfl) (Nat.le_of_ble_eq_true rfl) dX4_between_51
    · have hF9 : btR z WS p1 p2 = (3, 0) := by
        first | (simp only [btR, if_neg c_8, if_pos c_19]; done) | rfl
      have hP9 : va_P (dC, dI) kcl [(x, .inr (4, [.ref t0, .ref w0, .ref r0, .ref m0, .ref k0, .int (bI tt), .int lf])), (k0, .inr (1, [.ref aw, .ref al, .ref ap, .ref ao, .int (nI z)])), (aw, .inl (cW, 40, .inr (.inl WS)))] s.heap := by
        try rw [hF9]
        exact hP.sub [0, 1, 2] rfl
      have hD9 : va_D A [(x, .inr (4, [.ref t0, .ref w0, .ref r0, .ref m0, .ref k0, .int (bI tt), .int lf])), (k0, .inr (1, [.ref aw, .ref al, .ref ap, .ref ao, .int (nI z)])), (aw, .inl (cW, 40, .inr (.inl WS)))] := by
        try rw [hF9]
        exact hD.sub [0, 1, 2] (by decide) rfl
      obtain ⟨sa9, hsa9⟩ := kg_str hG (List.mem_of_getElem? (i := 7) (a := (RX4, 147, "there is no kept time of such a number")) rfl)
      exact vx_throwS (own := RX4) (cls := "java/lang/IndexOutOfBoundsException") (names := ["java/lang/RuntimeException", "java/lang/Exception"]) hx hb hl9 hown (by decide +kernel) (by decide +kernel) (hts _ (kcm kwm_175)) (hts _ (kcm kwm_176)) hsa9 (kg_hat hG (L := vx_atS RX4 84 "java/lang/IndexOutOfBoundsException" ["java/lang/RuntimeException", "java/lang/Exception"]) (fun w hw => hts w ((by decide +kernel : ∀ w ∈ (vx_atS RX4 84 "java/lang/IndexOutOfBoundsException" ["java/lang/RuntimeException", "java/lang/Exception"]).filter goodWord, w ∈ wsX4_between) w hw)) (by decide +kernel)) (by decide +kernel) (kg_U hG) (kg_V hG) hS (hl.1.trans hml.symm) dX4_between_22 dX4_between_25 dX4_between_26 dX4_between_28 dX4_between_31 (fun x h9 => (hex x h9).elim) (Nat.le_of_ble_eq_true rfl) (Nat.le_of_ble_eq_true rfl) (Nat.le_of_ble_eq_true rfl) (Nat.le_of_ble_eq_true rfl) hlocks (kx_made (by rw [hF9]; exact (show (3 : Nat) ≠ 0 by decide)) (by rw [hF9]; rfl) hP9 hD9 hS) hS.2.2 (Nat.le_of_ble_eq_true rfl) (Nat.le_of_ble_eq_true rfl)
