def leapY (y : Int32) : Bool :=
  if (y - y / 4 * 4) = 0 then
    if (y - y / 100 * 100) = 0 then
      if (y - y / 400 * 400) = 0 then
        true
      else
        false
    else
      true
  else
    false
set_option maxHeartbeats 4000000 in
set_option maxRecDepth 100000 in
theorem c_CT_isLeapYear (l : Launch) (dC : Nat → ClassId) (dI : Nat → Nat → Nat) (st sz : Nat) (y : Int32)  : Met l yX4_isLeapYear wsX4_isLeapYear ({ frames := 0, cells := 0, slots := 0, locals := 0 }) (kc_Pc (dC, dI) kcl st sz [.int y] [] []) (vp_Si (fun r => r = bI (leapY y))) 0 0 (fun _ => False) := by
  refine kc_ofS (cc := cX4_isLeapYear) (maxL := 1) (ret := (some .boolean)) (by decide) rfl (Nat.le_of_ble_eq_true rfl) ?_
  intro p e s m below meth c A ls Cx hA hG hK hP hD hS hl
  obtain ⟨hx, hb, hr, hml, hown, hts, hlocks, hnm⟩ := id Cx
  have hl : lv_has ls 1 [(0, .int y)] := hl
  refine lv_iload_n hx hb dX4_isLeapYear_0 rfl (lv_at hl 0 rfl) ?_
  refine lv_iconst (v := 4) hx hb dX4_isLeapYear_1 (by decide) ?_
  refine lv_irem hx hb dX4_isLeapYear_2 (by decide) ?_
  refine lv_if_ne (tgt := 25) hx hb dX4_isLeapYear_3 (by decide) (fun c_3 => ?_) (fun c_3 => ?_)
  · refine lv_iconst (v := 0) hx hb dX4_isLeapYear_25 (by decide) ?_
    have hF9 : leapY y = false := by
      first | (simp only [leapY, if_neg c_3]; done) | rfl
    have hv9 : (0 : Int32) = bI (leapY y) := by
      try rw [hF9]
      try rfl
    exact kc_Szret hx hb hr hlocks hv9 (bI_nar hv9) dX4_isLeapYear_26
  · refine lv_iload_n hx hb dX4_isLeapYear_6 rfl (lv_at hl 0 rfl) ?_
    refine lv_bipush (v := 100) hx hb dX4_isLeapYear_7 (by decide) ?_
    refine lv_irem hx hb dX4_isLeapYear_9 (by decide) ?_
    refine lv_if_ne (tgt := 21) hx hb dX4_isLeapYear_10 (by decide) (fun c_10 => ?_) (fun c_10 => ?_)
    · refine lv_iconst (v := 1) hx hb dX4_isLeapYear_21 (by decide) ?_
      refine lv_goto (tgt := 26) hx hb dX4_isLeapYear_22 (by decide) ?_
      have hF9 : leapY y = true := by
        first | (simp only [leapY, if_pos c_3, if_neg c_10]; done) | rfl
      have hv9 : (1 : Int32) = bI (leapY y) := by
        try rw [hF9]
        try rfl
      exact kc_Szret hx hb hr hlocks hv9 (bI_nar hv9) dX4_isLeapYear_26
    · refine lv_iload_n hx hb dX4_isLeapYear_13 rfl (lv_at hl 0 rfl) ?_
      refine lv_sipush (v := 400) hx hb dX4_isLeapYear_14 (by decide) ?_
      refine lv_irem hx hb dX4_isLeapYear_17 (by decide) ?_
      refine lv_if_ne (tgt := 25) hx hb dX4_isLeapYear_18 (by decide) (fun c_18 => ?_) (fun c_18 => ?_)
      · refine lv_iconst (v := 0) hx hb dX4_isLeapYear_25 (by decide) ?_
        have hF9 : leapY y = false := by
          first | (simp only [leapY, if_pos c_3, if_pos c_10, if_neg c_18]; done) | rfl
        have hv9 : (0 : Int32) = bI (leapY y) := by
          try rw [hF9]
          try rfl
        exact kc_Szret hx hb hr hlocks hv9 (bI_nar hv9) dX4_isLeapYear_26
      · refine lv_iconst (v := 1) hx hb dX4_isLeapYear_21 (by decide) ?_
        refine lv_goto (tgt := 26) hx hb dX4_isLeapYear_22 (by decide) ?_
        have hF9 : leapY y = true := by
          first | (simp only [leapY, if_pos c_3, if_pos c_10, if_pos c_18]; done) | rfl
        have hv9 : (1 : Int32) = bI (leapY y) := by
          try rw [hF9]
          try rfl
        exact kc_Szret hx hb hr hlocks hv9 (bI_nar hv9) dX4_isLeapYear_26
def daysM (y mo : Int32) : Int32 :=
  if mo < 1 then
    0
  else
    if mo ≤ 12 then
      if mo = 2 then
        if (bI (leapY y)) = 0 then
          (dbm mo.toNatClampNeg) - (dbm (mo - 1).toNatClampNeg)
        else
          ((dbm mo.toNatClampNeg) - (dbm (mo - 1).toNatClampNeg)) + 1
      else
        (dbm mo.toNatClampNeg) - (dbm (mo - 1).toNatClampNeg)
    else
      0
set_option maxHeartbeats 4000000 in
set_option maxRecDepth 100000 in
theorem c_CT_daysOfMonth (l : Launch) (dC : Nat → ClassId) (dI : Nat → Nat → Nat) (st sz : Nat) (y : Int32) (mo : Int32)  : Met l yX4_daysOfMonth wsX4_daysOfMonth ({ frames := 1, cells := 0, slots := 0, locals := 20 }) (kc_Pc (dC, dI) kcl st sz [.int y, .int mo] [] []) (vp_Si (fun r => r = daysM y mo)) 0 0 (fun _ => False) := by
  refine kc_ofS (cc := cX4_daysOfMonth) (maxL := 3) (ret := (some .int)) (by decide) rfl (Nat.le_of_ble_eq_true rfl) ?_
  intro p e s m below meth c A ls Cx hA hG hK hP hD hS hl
  obtain ⟨hx, hb, hr, hml, hown, hts, hlocks, hnm⟩ := id Cx
  have hl : lv_has ls 3 [(0, .int y), (1, .int mo)] := hl
  refine lv_iload_n hx hb dX4_daysOfMonth_0 rfl (lv_at hl 1 rfl) ?_
  refine lv_iconst (v := 1) hx hb dX4_daysOfMonth_1 (by decide) ?_
  refine lv_icmp_lt (tgt := 11) hx hb dX4_daysOfMonth_2 (by decide) (fun c_2 => ?_) (fun c_2 => ?_)
  · refine lv_iconst (v := 0) hx hb dX4_daysOfMonth_11 (by decide) ?_
    have hF9 : daysM y mo = 0 := by
      first | (simp only [daysM, if_pos c_2]; done) | rfl
    have hv9 : (0 : Int32) = daysM y mo := by
      try rw [hF9]
      try rfl
    exact kc_Siret hx hb hr hlocks hv9 dX4_daysOfMonth_12
  · refine lv_iload_n hx hb dX4_daysOfMonth_5 rfl (lv_at hl 1 rfl) ?_
    refine lv_bipush (v := 12) hx hb dX4_daysOfMonth_6 (by decide) ?_
    refine lv_icmp_le (tgt := 13) hx hb dX4_daysOfMonth_8 (by decide) (fun c_8 => ?_) (fun c_8 => ?_)
    · refine va_gets hx hb (kg_Z hG) hS hown (hts _ (kcm kwm_15)) (fun _ h9 => h9) dX4_daysOfMonth_13 ?_
      refine lv_iload_n hx hb dX4_daysOfMonth_16 rfl (lv_at hl 1 rfl) ?_
      refine va_ti (v := .int (dbm mo.toNatClampNeg)) hx hb (kg_T hG) hS (kb_mo c_2 c_8).1 rfl dX4_daysOfMonth_17 ?_
      refine va_gets hx hb (kg_Z hG) hS hown (hts _ (kcm kwm_15)) (fun _ h9 => h9) dX4_daysOfMonth_18 ?_
      refine lv_iload_n hx hb dX4_daysOfMonth_21 rfl (lv_at hl 1 rfl) ?_
      refine lv_iconst (v := 1) hx hb dX4_daysOfMonth_22 (by decide) ?_
      refine lv_isub hx hb dX4_daysOfMonth_23 ?_
      refine va_ti (v := .int (dbm (mo - 1).toNatClampNeg)) hx hb (kg_T hG) hS (kb_mo c_2 c_8).2 rfl dX4_daysOfMonth_24 ?_
      refine lv_isub hx hb dX4_daysOfMonth_25 ?_
      refine lv_istore_n (lv' := [(2, .int ((dbm mo.toNatClampNeg) - (dbm (mo - 1).toNatClampNeg))), (0, .int y), (1, .int mo)]) hx hb dX4_daysOfMonth_26 rfl hl (by decide) rfl (fun ls hl => ?_)
      refine lv_iload_n hx hb dX4_daysOfMonth_27 rfl (lv_at hl 2 rfl) ?_
      refine lv_iconst (v := 2) hx hb dX4_daysOfMonth_28 (by decide) ?_
      refine lv_icmp_ne (tgt := 45) hx hb dX4_daysOfMonth_29 (by decide) (fun c_29 => ?_) (fun c_29 => ?_)
      · refine lv_iload_n hx hb dX4_daysOfMonth_45 rfl (lv_at hl 0 rfl) ?_
        have hF9 : daysM y mo = (dbm mo.toNatClampNeg) - (dbm (mo - 1).toNatClampNeg) := by
          first | (simp only [daysM, if_neg c_2, if_pos c_8, if_neg c_29]; done) | rfl
        have hv9 : (dbm mo.toNatClampNeg) - (dbm (mo - 1).toNatClampNeg) = daysM y mo := by
          try rw [hF9]
          try rfl
        exact kc_Siret hx hb hr hlocks hv9 dX4_daysOfMonth_46
      · refine lv_iload_n hx hb dX4_daysOfMonth_32 rfl (lv_at hl 1 rfl) ?_
        have hPc := hP.sub (ws' := []) [] rfl
        have hDc := hD.sub (ws' := []) [] (by decide) rfl
        have hKc := hK.sub (tys' := []) [] rfl
        have hFc := va_free (wc := []) hD hS hA [] rfl
        refine kc_callSi (val := bI (leapY y)) (va_runS (As := [.int y]) (rest := []) ⟨hx, hb, hml, hown, hts⟩ (c_CT_isLeapYear l dC dI st s.heap.size y ) (va_cwS 1 hts (kwS kwm_12 kwm_13 kwm_14 kwm_11) rfl rfl rfl (by decide +kernel) ⟨Nat.le_of_ble_eq_true rfl, Nat.le_of_ble_eq_true rfl⟩) ⟨kc_blind, kc_pre hG hS hFc hKc hPc hDc⟩ rfl rfl hl.1 rfl (lv_room (Nat.le_of_ble_eq_true rfl)) dX4_daysOfMonth_33 ⟨Nat.le_of_ble_eq_true rfl, Nat.le_of_ble_eq_true rfl⟩) ?_
        refine lv_if_eq (tgt := 45) hx hb dX4_daysOfMonth_36 (by decide) (fun c_36 => ?_) (fun c_36 => ?_)
        · refine lv_iload_n hx hb dX4_daysOfMonth_45 rfl (lv_at hl 0 rfl) ?_
          have hF9 : daysM y mo = (dbm mo.toNatClampNeg) - (dbm (mo - 1).toNatClampNeg) := by
            first | (simp only [daysM, if_neg c_2, if_pos c_8, if_pos c_29, if_pos c_36]; done) | rfl
          have hv9 : (dbm mo.toNatClampNeg) - (dbm (mo - 1).toNatClampNeg) = daysM y mo := by
            try rw [hF9]
            try rfl
          exact kc_Siret hx hb hr hlocks hv9 dX4_daysOfMonth_46
        · refine lv_iload_n hx hb dX4_daysOfMonth_39 rfl (lv_at hl 0 rfl) ?_
          refine lv_iconst (v := 1) hx hb dX4_daysOfMonth_40 (by decide) ?_
          refine lv_iadd hx hb dX4_daysOfMonth_41 ?_
          refine lv_goto (tgt := 46) hx hb dX4_daysOfMonth_42 (by decide) ?_
          have hF9 : daysM y mo = ((dbm mo.toNatClampNeg) - (dbm (mo - 1).toNatClampNeg)) + 1 := by
            first | (simp only [daysM, if_neg c_2, if_pos c_8, if_pos c_29, if_neg c_36]; done) | rfl
          have hv9 : ((dbm mo.toNatClampNeg) - (dbm (mo - 1).toNatClampNeg)) + 1 = daysM y mo := by
            try rw [hF9]
            try rfl
          exact kc_Siret hx hb hr hlocks hv9 dX4_daysOfMonth_46
    · refine lv_iconst (v := 0) hx hb dX4_daysOfMonth_11 (by decide) ?_
      have hF9 : daysM y mo = 0 := by
        first | (simp only [daysM, if_neg c_2, if_neg c_8]; done) | rfl
      have hv9 : (0 : Int32) = daysM y mo := by
        try rw [hF9]
        try rfl
      exact kc_Siret hx hb hr hlocks hv9 dX4_daysOfMonth_12
def yFits (kind y : Int32) : Bool :=
  if kind = 0 then
    if y < 1950 then
      false
    else
      if 2049 < y then
        false
      else
        true
  else
    if y < 0 then
      false
    else
      if 9999 < y then
        false
      else
        true
set_option maxHeartbeats 4000000 in
set_option maxRecDepth 100000 in
theorem c_Rd_yearFits (l : Launch) (dC : Nat → ClassId) (dI : Nat → Nat → Nat) (st sz : Nat) (kind : Int32) (y : Int32)  : Met l yX3_yearFits wsX3_yearFits ({ frames := 0, cells := 0, slots := 0, locals := 0 }) (kc_Pc (dC, dI) kcl st sz [.int kind, .int y] [] []) (vp_Si (fun r => r = bI (yFits kind y))) 0 0 (fun _ => False) := by
  refine kc_ofS (cc := cX3_yearFits) (maxL := 2) (ret := (some .boolean)) (by decide) rfl (Nat.le_of_ble_eq_true rfl) ?_
  intro p e s m below meth c A ls Cx hA hG hK hP hD hS hl
  obtain ⟨hx, hb, hr, hml, hown, hts, hlocks, hnm⟩ := id Cx
  have hl : lv_has ls 2 [(0, .int kind), (1, .int y)] := hl
  refine lv_iload_n hx hb dX3_yearFits_0 rfl (lv_at hl 0 rfl) ?_
  refine lv_if_ne (tgt := 24) hx hb dX3_yearFits_1 (by decide) (fun c_1 => ?_) (fun c_1 => ?_)
  · refine lv_iload_n hx hb dX3_yearFits_24 rfl (lv_at hl 1 rfl) ?_
    refine lv_if_lt (tgt := 39) hx hb dX3_yearFits_25 (by decide) (fun c_25 => ?_) (fun c_25 => ?_)
    · refine lv_iconst (v := 0) hx hb dX3_yearFits_39 (by decide) ?_
      have hF9 : yFits kind y = false := by
        first | (simp only [yFits, if_neg c_1, if_pos c_25]; done) | rfl
      have hv9 : (0 : Int32) = bI (yFits kind y) := by
        try rw [hF9]
        try rfl
      exact kc_Szret hx hb hr hlocks hv9 (bI_nar hv9) dX3_yearFits_40
    · refine lv_iload_n hx hb dX3_yearFits_28 rfl (lv_at hl 1 rfl) ?_
      refine lv_sipush (v := 9999) hx hb dX3_yearFits_29 (by decide) ?_
      refine lv_icmp_gt (tgt := 39) hx hb dX3_yearFits_32 (by decide) (fun c_32 => ?_) (fun c_32 => ?_)
      · refine lv_iconst (v := 0) hx hb dX3_yearFits_39 (by decide) ?_
        have hF9 : yFits kind y = false := by
          first | (simp only [yFits, if_neg c_1, if_neg c_25, if_pos c_32]; done) | rfl
        have hv9 : (0 : Int32) = bI (yFits kind y) := by
          try rw [hF9]
          try rfl
        exact kc_Szret hx hb hr hlocks hv9 (bI_nar hv9) dX3_yearFits_40
      · refine lv_iconst (v := 1) hx hb dX3_yearFits_35 (by decide) ?_
        refine lv_goto (tgt := 40) hx hb dX3_yearFits_36 (by decide) ?_
        have hF9 : yFits kind y = true := by
          first | (simp only [yFits, if_neg c_1, if_neg c_25, if_neg c_32]; done) | rfl
        have hv9 : (1 : Int32) = bI (yFits kind y) := by
          try rw [hF9]
          try rfl
        exact kc_Szret hx hb hr hlocks hv9 (bI_nar hv9) dX3_yearFits_40
  · refine lv_iload_n hx hb dX3_yearFits_4 rfl (lv_at hl 1 rfl) ?_
    refine lv_sipush (v := 1950) hx hb dX3_yearFits_5 (by decide) ?_
    refine lv_icmp_lt (tgt := 22) hx hb dX3_yearFits_8 (by decide) (fun c_8 => ?_) (fun c_8 => ?_)
    · refine lv_iconst (v := 0) hx hb dX3_yearFits_22 (by decide) ?_
      have hF9 : yFits kind y = false := by
        first | (simp only [yFits, if_pos c_1, if_pos c_8]; done) | rfl
      have hv9 : (0 : Int32) = bI (yFits kind y) := by
        try rw [hF9]
        try rfl
      exact kc_Szret hx hb hr hlocks hv9 (bI_nar hv9) dX3_yearFits_23
    · refine lv_iload_n hx hb dX3_yearFits_11 rfl (lv_at hl 1 rfl) ?_
      refine lv_sipush (v := 2049) hx hb dX3_yearFits_12 (by decide) ?_
      refine lv_icmp_gt (tgt := 22) hx hb dX3_yearFits_15 (by decide) (fun c_15 => ?_) (fun c_15 => ?_)
      · refine lv_iconst (v := 0) hx hb dX3_yearFits_22 (by decide) ?_
        have hF9 : yFits kind y = false := by
          first | (simp only [yFits, if_pos c_1, if_neg c_8, if_pos c_15]; done) | rfl
        have hv9 : (0 : Int32) = bI (yFits kind y) := by
          try rw [hF9]
          try rfl
        exact kc_Szret hx hb hr hlocks hv9 (bI_nar hv9) dX3_yearFits_23
      · refine lv_iconst (v := 1) hx hb dX3_yearFits_18 (by decide) ?_
        refine lv_goto (tgt := 23) hx hb dX3_yearFits_19 (by decide) ?_
        have hF9 : yFits kind y = true := by
          first | (simp only [yFits, if_pos c_1, if_neg c_8, if_neg c_15]; done) | rfl
        have hv9 : (1 : Int32) = bI (yFits kind y) := by
          try rw [hF9]
          try rfl
        exact kc_Szret hx hb hr hlocks hv9 (bI_nar hv9) dX3_yearFits_23
