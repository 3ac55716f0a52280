set_option maxHeartbeats 4000000 in
set_option maxRecDepth 100000 in
theorem c_CT_fault (l : Launch) (dC : Nat → ClassId) (dI : Nat → Nat → Nat) (st sz : Nat) (x : Nat) (t0 : Nat) (w0 : Nat) (r0 : Nat) (m0 : Nat) (k0 : Nat) (tt : Bool) (lf : Int32)  : Met l yX4_fault wsX4_fault ({ frames := 0, cells := 0, slots := 0, locals := 0 }) (kc_Pc (dC, dI) kcl st sz [.ref x] [(x, .inr (4, [.ref t0, .ref w0, .ref r0, .ref m0, .ref k0, .int (bI tt), .int lf]))] []) (vp_Si (fun r => r = lf)) 0 0 (fun _ => False) := by
  refine kc_ofS (cc := cX4_fault) (maxL := 1) (ret := (some .int)) (by decide) rfl (Nat.le_of_ble_eq_true rfl) ?_
  intro p e s m below meth c A ls Cx hA hG hK hP hD hS hl
  obtain ⟨hx, hb, hr, hml, hown, hts, hlocks, hnm⟩ := id Cx
  have hl : lv_has ls 1 [(0, .ref x)] := hl
  refine lv_aload_n hx hb dX4_fault_0 rfl (lv_at hl 0 rfl) ?_
  refine va_get (D := (dC, dI)) (ci := 4) (v := .int lf) (C := RX4) (T := TX4) (N := 7) hx hb hts kin_4 hown hK hP 0 rfl rfl 6 (by decide) (hts _ (kcm kwm_132)) (fun _ h9 => h9) rfl dX4_fault_1 ?_
  have hv9 : lf = lf := by
    skip
    try rfl
  exact kc_Siret hx hb hr hlocks hv9 dX4_fault_4
def cntR (nt nw z : Nat) (p1 : Int32) : Int32 :=
  if p1 = 0 then
    nI nt
  else
    if p1 = 1 then
      nI nw
    else
      if p1 = 2 then
        nI z
      else
        (-1)
set_option maxHeartbeats 4000000 in
set_option maxRecDepth 100000 in
theorem c_CT_count (l : Launch) (dC : Nat → ClassId) (dI : Nat → Nat → Nat) (st sz : Nat) (x : Nat) (t0 : Nat) (w0 : Nat) (r0 : Nat) (m0 : Nat) (k0 : Nat) (tt : Bool) (lf : Int32) (tb : Nat) (nt : Nat) (wb : Nat) (nw : Nat) (aw : Nat) (al : Nat) (ap : Nat) (ao : Nat) (z : Nat) (p1 : Int32)  : Met l yX4_count wsX4_count ({ frames := 0, cells := 0, slots := 0, locals := 0 }) (kc_Pc (dC, dI) kcl st sz [.ref x, .int p1] [(x, .inr (4, [.ref t0, .ref w0, .ref r0, .ref m0, .ref k0, .int (bI tt), .int lf])), (t0, .inr (0, [.ref tb, .int (nI nt)])), (w0, .inr (0, [.ref wb, .int (nI nw)])), (k0, .inr (1, [.ref aw, .ref al, .ref ap, .ref ao, .int (nI z)]))] []) (vp_Si (fun r => r = cntR nt nw z p1)) 0 0 (fun _ => False) := by
  refine kc_ofS (cc := cX4_count) (maxL := 2) (ret := (some .int)) (by decide) rfl (Nat.le_of_ble_eq_true rfl) ?_
  intro p e s m below meth c A ls Cx hA hG hK hP hD hS hl
  obtain ⟨hx, hb, hr, hml, hown, hts, hlocks, hnm⟩ := id Cx
  have hl : lv_has ls 2 [(0, .ref x), (1, .int p1)] := hl
  refine lv_iload_n hx hb dX4_count_0 rfl (lv_at hl 1 rfl) ?_
  by_cases c_1_0 : p1 = 0
  · refine lv_tableIn (off := 27) (tgt := 28) hx hb dX4_count_1 (by rw [c_1_0]; decide) (by rw [c_1_0]; decide) (by rw [c_1_0]; rfl) (by decide) ?_
    refine lv_aload_n hx hb dX4_count_28 rfl (lv_at hl 0 rfl) ?_
    refine va_get (D := (dC, dI)) (ci := 4) (v := .ref t0) (C := RX4) (T := TX4) (N := 7) hx hb hts kin_4 hown hK hP 0 rfl rfl 0 (by decide) (hts _ (kcm kwm_133)) (fun _ h9 => h9) rfl dX4_count_29 ?_
    refine va_getN (D := (dC, dI)) (ci := 0) (v := .int (nI nt)) (C := RX0) (T := TX0) (N := 2) hx hb hts kin_0 hown hK hP 1 rfl rfl 1 (by decide) (kg_use hG (List.mem_of_getElem? (i := 14) (a := Cond.fieldLinkNest RX4 48 "ClockTexts$ByteRow" "length" "I" "ClockTexts") rfl)) (fun _ h9 => h9) rfl dX4_count_32 ?_
    have hF9 : cntR nt nw z p1 = nI nt := by
      first | (simp only [cntR, if_pos c_1_0]; done) | rfl
    have hv9 : nI nt = cntR nt nw z p1 := by
      try rw [hF9]
      try rfl
    exact kc_Siret hx hb hr hlocks hv9 dX4_count_35
  · by_cases c_1_1 : p1 = 1
    · refine lv_tableIn (off := 35) (tgt := 36) hx hb dX4_count_1 (by rw [c_1_1]; decide) (by rw [c_1_1]; decide) (by rw [c_1_1]; rfl) (by decide) ?_
      refine lv_aload_n hx hb dX4_count_36 rfl (lv_at hl 0 rfl) ?_
      refine va_get (D := (dC, dI)) (ci := 4) (v := .ref w0) (C := RX4) (T := TX4) (N := 7) hx hb hts kin_4 hown hK hP 0 rfl rfl 1 (by decide) (hts _ (kcm kwm_131)) (fun _ h9 => h9) rfl dX4_count_37 ?_
      refine va_getN (D := (dC, dI)) (ci := 0) (v := .int (nI nw)) (C := RX0) (T := TX0) (N := 2) hx hb hts kin_0 hown hK hP 2 rfl rfl 1 (by decide) (kg_use hG (List.mem_of_getElem? (i := 14) (a := Cond.fieldLinkNest RX4 48 "ClockTexts$ByteRow" "length" "I" "ClockTexts") rfl)) (fun _ h9 => h9) rfl dX4_count_40 ?_
      have hF9 : cntR nt nw z p1 = nI nw := by
        first | (simp only [cntR, if_neg c_1_0, if_pos c_1_1]; done) | rfl
      have hv9 : nI nw = cntR nt nw z p1 := by
        try rw [hF9]
        try rfl
      exact kc_Siret hx hb hr hlocks hv9 dX4_count_43
    · by_cases c_1_2 : p1 = 2
      · refine lv_tableIn (off := 43) (tgt := 44) hx hb dX4_count_1 (by rw [c_1_2]; decide) (by rw [c_1_2]; decide) (by rw [c_1_2]; rfl) (by decide) ?_
        refine lv_aload_n hx hb dX4_count_44 rfl (lv_at hl 0 rfl) ?_
        refine va_get (D := (dC, dI)) (ci := 4) (v := .ref k0) (C := RX4) (T := TX4) (N := 7) hx hb hts kin_4 hown hK hP 0 rfl rfl 4 (by decide) (hts _ (kcm kwm_134)) (fun _ h9 => h9) rfl dX4_count_45 ?_
        refine va_getN (D := (dC, dI)) (ci := 1) (v := .int (nI z)) (C := RX1) (T := TX1) (N := 5) hx hb hts kin_1 hown hK hP 3 rfl rfl 4 (by decide) (kg_use hG (List.mem_of_getElem? (i := 16) (a := Cond.fieldLinkNest RX4 125 "ClockTexts$KeptTimes" "size" "I" "ClockTexts") rfl)) (fun _ h9 => h9) rfl dX4_count_48 ?_
        have hF9 : cntR nt nw z p1 = nI z := by
          first | (simp only [cntR, if_neg c_1_0, if_neg c_1_1, if_pos c_1_2]; done) | rfl
        have hv9 : nI z = cntR nt nw z p1 := by
          try rw [hF9]
          try rfl
        exact kc_Siret hx hb hr hlocks hv9 dX4_count_51
      · refine lv_tableOut (tgt := 52) hx hb dX4_count_1 (by have h0 := lv_neT c_1_0 (a := 0) (by decide); have h1 := lv_neT c_1_1 (a := 1) (by decide); have h2 := lv_neT c_1_2 (a := 2) (by decide); omega) (by decide) ?_
        refine lv_iconst (v := (-1)) hx hb dX4_count_52 (by decide) ?_
        have hF9 : cntR nt nw z p1 = (-1) := by
          first | (simp only [cntR, if_neg c_1_0, if_neg c_1_1, if_neg c_1_2]; done) | rfl
        have hv9 : ((-1) : Int32) = cntR nt nw z p1 := by
          try rw [hF9]
          try rfl
        exact kc_Siret hx hb hr hlocks hv9 dX4_count_53
