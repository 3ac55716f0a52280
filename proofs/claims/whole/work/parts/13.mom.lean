set_option maxHeartbeats 4000000 in
set_option maxRecDepth 100000 in
theorem c_Mo_clearOptional (l : Launch) (dC : Nat → ClassId) (dI : Nat → Nat → Nat) (st sz : Nat) (h : Nat) (y : Int32) (mo : Int32) (d : Int32) (hh : Int32) (mi : Int32) (ss : Int32) (hp : Nat) (k : Nat)  : Met l yX2_clearOptional wsX2_clearOptional ({ frames := 0, cells := 0, slots := 0, locals := 0 }) (kc_Pc (dC, dI) kcl st sz [.ref h] [(h, .inr (2, [.int y, .int mo, .int d, .int hh, .int mi, .int ss, .ref hp, .int (nI k)]))] []) (kc_Qv (dC, dI) kcl [(h, .inr (2, [.int y, .int mo, .int d, .int hh, .int 0, .int 0, .ref hp, .int (nI 0)]))] (va_A [(h, .inr (2, [.int y, .int mo, .int d, .int hh, .int mi, .int ss, .ref hp, .int (nI k)]))] sz)) 0 0 (va_A [(h, .inr (2, [.int y, .int mo, .int d, .int hh, .int mi, .int ss, .ref hp, .int (nI k)]))] sz) := by
  refine kc_ofW (Qc := fun A => (kc_Qv (dC, dI) kcl [(h, .inr (2, [.int y, .int mo, .int d, .int hh, .int 0, .int 0, .ref hp, .int (nI 0)]))] A)) (cc := cX2_clearOptional) (maxL := 1) (ret := none) (by decide) rfl (Nat.le_of_ble_eq_true rfl) ?_
  intro p e s m below meth c A ls Cx hA hG hK hP hD hS hl
  obtain ⟨hx, hb, hr, hml, hown, hts, hlocks, hnm⟩ := id Cx
  have hl : lv_has ls 1 [(0, .ref h)] := hl
  refine lv_aload_n hx hb dX2_clearOptional_0 rfl (lv_at hl 0 rfl) ?_
  refine lv_iconst (v := 0) hx hb dX2_clearOptional_1 (by decide) ?_
  refine va_put (D := (dC, dI)) (ci := 2) (v := .int 0) (ty := .int) (C := RX2) (T := TX2) (N := 8) hx hb hts kin_2 tyX2 tyX2_ok nmX2 hown hK hP hD hS 0 rfl rfl 4 (by decide) (hts _ (kcm kwm_30)) (fun _ h9 => h9) rfl (by decide +kernel) rfl rfl (Nat.le_of_ble_eq_true rfl) dX2_clearOptional_2 (fun H locs hP hD hS => ?_)
  have hP : va_P (dC, dI) kcl [(h, .inr (2, [.int y, .int mo, .int d, .int hh, .int 0, .int ss, .ref hp, .int (nI k)]))] H := hP
  have hD : va_D A [(h, .inr (2, [.int y, .int mo, .int d, .int hh, .int 0, .int ss, .ref hp, .int (nI k)]))] := hD
  refine lv_aload_n hx hb dX2_clearOptional_5 rfl (lv_at hl 0 rfl) ?_
  refine lv_iconst (v := 0) hx hb dX2_clearOptional_6 (by decide) ?_
  refine va_put (D := (dC, dI)) (ci := 2) (v := .int 0) (ty := .int) (C := RX2) (T := TX2) (N := 8) hx hb hts kin_2 tyX2 tyX2_ok nmX2 hown hK hP hD hS 0 rfl rfl 5 (by decide) (hts _ (kcm kwm_31)) (fun _ h9 => h9) rfl (by decide +kernel) rfl rfl (Nat.le_of_ble_eq_true rfl) dX2_clearOptional_7 (fun H locs hP hD hS => ?_)
  have hP : va_P (dC, dI) kcl [(h, .inr (2, [.int y, .int mo, .int d, .int hh, .int 0, .int 0, .ref hp, .int (nI k)]))] H := hP
  have hD : va_D A [(h, .inr (2, [.int y, .int mo, .int d, .int hh, .int 0, .int 0, .ref hp, .int (nI k)]))] := hD
  refine lv_aload_n hx hb dX2_clearOptional_10 rfl (lv_at hl 0 rfl) ?_
  refine lv_iconst (v := 0) hx hb dX2_clearOptional_11 (by decide) ?_
  refine va_put (D := (dC, dI)) (ci := 2) (v := .int 0) (ty := .int) (C := RX2) (T := TX2) (N := 8) hx hb hts kin_2 tyX2 tyX2_ok nmX2 hown hK hP hD hS 0 rfl rfl 7 (by decide) (hts _ (kcm kwm_32)) (fun _ h9 => h9) rfl (by decide +kernel) rfl rfl (Nat.le_of_ble_eq_true rfl) dX2_clearOptional_12 (fun H locs hP hD hS => ?_)
  have hP : va_P (dC, dI) kcl [(h, .inr (2, [.int y, .int mo, .int d, .int hh, .int 0, .int 0, .ref hp, .int 0]))] H := hP
  have hD : va_D A [(h, .inr (2, [.int y, .int mo, .int d, .int hh, .int 0, .int 0, .ref hp, .int 0]))] := hD
  rw [← nI_0] at hP hD
  have hP9 : va_P (dC, dI) kcl [(h, .inr (2, [.int y, .int mo, .int d, .int hh, .int 0, .int 0, .ref hp, .int (nI 0)]))] H := by
    skip
    exact hP.sub [0] rfl
  have hD9 : va_D A [(h, .inr (2, [.int y, .int mo, .int d, .int hh, .int 0, .int 0, .ref hp, .int (nI 0)]))] := by
    skip
    exact hD.sub [0] (by decide) rfl
  exact kc_vret hx hb hr hlocks hP9 hD9 hS dX2_clearOptional_15
set_option maxHeartbeats 4000000 in
set_option maxRecDepth 100000 in
theorem c_Mo_appendPartDigit (l : Launch) (dC : Nat → ClassId) (dI : Nat → Nat → Nat) (st sz : Nat) (h : Nat) (y : Int32) (mo : Int32) (d : Int32) (hh : Int32) (mi : Int32) (ss : Int32) (hp : Nat) (k : Nat) (cP : ClassId) (g : Nat → Int32) (v : Int32) (hk : k ≤ 242) : Met l yX2_appendPartDigit wsX2_appendPartDigit ({ frames := 0, cells := 0, slots := 0, locals := 0 }) (kc_Pc (dC, dI) kcl st sz [.ref h, .int v] [(h, .inr (2, [.int y, .int mo, .int d, .int hh, .int mi, .int ss, .ref hp, .int (nI k)])), (hp, .inl (cP, 242, .inl g))] [(cP, .byte)]) (kc_Qv (dC, dI) kcl [(h, .inr (2, [.int y, .int mo, .int d, .int hh, .int mi, .int ss, .ref hp, .int (nI (rApp g k v).2)])), (hp, .inl (cP, 242, .inl (rApp g k v).1))] (va_A [(h, .inr (2, [.int y, .int mo, .int d, .int hh, .int mi, .int ss, .ref hp, .int (nI k)])), (hp, .inl (cP, 242, .inl g))] sz)) 0 0 (va_A [(h, .inr (2, [.int y, .int mo, .int d, .int hh, .int mi, .int ss, .ref hp, .int (nI k)])), (hp, .inl (cP, 242, .inl g))] sz) := by
  refine kc_ofW (Qc := fun A => (kc_Qv (dC, dI) kcl [(h, .inr (2, [.int y, .int mo, .int d, .int hh, .int mi, .int ss, .ref hp, .int (nI (rApp g k v).2)])), (hp, .inl (cP, 242, .inl (rApp g k v).1))] A)) (cc := cX2_appendPartDigit) (maxL := 2) (ret := none) (by decide) rfl (Nat.le_of_ble_eq_true rfl) ?_
  intro p e s m below meth c A ls Cx hA hG hK hP hD hS hl
  obtain ⟨hx, hb, hr, hml, hown, hts, hlocks, hnm⟩ := id Cx
  have hl : lv_has ls 2 [(0, .ref h), (1, .int v)] := hl
  refine lv_aload_n hx hb dX2_appendPartDigit_0 rfl (lv_at hl 0 rfl) ?_
  refine va_get (D := (dC, dI)) (ci := 2) (v := .int (nI k)) (C := RX2) (T := TX2) (N := 8) hx hb hts kin_2 hown hK hP 0 rfl rfl 7 (by decide) (hts _ (kcm kwm_32)) (fun _ h9 => h9) rfl dX2_appendPartDigit_1 ?_
  refine lv_aload_n hx hb dX2_appendPartDigit_4 rfl (lv_at hl 0 rfl) ?_
  refine va_get (D := (dC, dI)) (ci := 2) (v := .ref hp) (C := RX2) (T := TX2) (N := 8) hx hb hts kin_2 hown hK hP 0 rfl rfl 6 (by decide) (hts _ (kcm kwm_33)) (fun _ h9 => h9) rfl dX2_appendPartDigit_5 ?_
  refine va_alen (v := 242) hx hb hK hP 1 0 rfl rfl rfl dX2_appendPartDigit_8 ?_
  refine lv_icmp_ge (tgt := 33) hx hb dX2_appendPartDigit_9 (by decide) (fun c_9 => ?_) (fun c_9 => ?_)
  · have hge : ¬ k < 242 := kb_ge (N := 242) c_9 (by decide)
    have hP9 : va_P (dC, dI) kcl [(h, .inr (2, [.int y, .int mo, .int d, .int hh, .int mi, .int ss, .ref hp, .int (nI (rApp g k v).2)])), (hp, .inl (cP, 242, .inl (rApp g k v).1))] s.heap := by
      simp only [rApp, if_neg hge]
      exact hP.sub [0, 1] rfl
    have hD9 : va_D A [(h, .inr (2, [.int y, .int mo, .int d, .int hh, .int mi, .int ss, .ref hp, .int (nI (rApp g k v).2)])), (hp, .inl (cP, 242, .inl (rApp g k v).1))] := by
      simp only [rApp, if_neg hge]
      exact hD.sub [0, 1] (by decide) rfl
    exact kc_vret hx hb hr hlocks hP9 hD9 hS dX2_appendPartDigit_33
  · have hlt : k < 242 := kb_lt (N := 242) c_9 (by omega)
    refine lv_aload_n hx hb dX2_appendPartDigit_12 rfl (lv_at hl 0 rfl) ?_
    refine va_get (D := (dC, dI)) (ci := 2) (v := .ref hp) (C := RX2) (T := TX2) (N := 8) hx hb hts kin_2 hown hK hP 0 rfl rfl 6 (by decide) (hts _ (kcm kwm_33)) (fun _ h9 => h9) rfl dX2_appendPartDigit_13 ?_
    refine lv_aload_n hx hb dX2_appendPartDigit_16 rfl (lv_at hl 0 rfl) ?_
    refine va_get (D := (dC, dI)) (ci := 2) (v := .int (nI k)) (C := RX2) (T := TX2) (N := 8) hx hb hts kin_2 hown hK hP 0 rfl rfl 7 (by decide) (hts _ (kcm kwm_32)) (fun _ h9 => h9) rfl dX2_appendPartDigit_17 ?_
    refine lv_iload_n hx hb dX2_appendPartDigit_20 rfl (lv_at hl 1 rfl) ?_
    refine lv_i2b (v := v.toInt8.toInt32) hx hb dX2_appendPartDigit_21 rfl ?_
    refine va_bast hx hb hK hP hD hS 1 0 rfl rfl (vp_in_nI hlt (by decide)) dX2_appendPartDigit_22 (fun H locs hP hD hS => ?_)
    rw [show (nI k).toNatClampNeg = k from nI_clamp (by omega)] at hP hD
    have hP : va_P (dC, dI) kcl [(h, .inr (2, [.int y, .int mo, .int d, .int hh, .int mi, .int ss, .ref hp, .int (nI k)])), (hp, .inl (cP, 242, .inl (upd g k (vp_nar .byte v.toInt8.toInt32))))] H := hP
    have hD : va_D A [(h, .inr (2, [.int y, .int mo, .int d, .int hh, .int mi, .int ss, .ref hp, .int (nI k)])), (hp, .inl (cP, 242, .inl (upd g k (vp_nar .byte v.toInt8.toInt32))))] := hD
    refine lv_aload_n hx hb dX2_appendPartDigit_23 rfl (lv_at hl 0 rfl) ?_
    refine lv_dup hx hb dX2_appendPartDigit_24 rfl ?_
    refine va_get (D := (dC, dI)) (ci := 2) (v := .int (nI k)) (C := RX2) (T := TX2) (N := 8) hx hb hts kin_2 hown hK hP 0 rfl rfl 7 (by decide) (hts _ (kcm kwm_32)) (fun _ h9 => h9) rfl dX2_appendPartDigit_25 ?_
    refine lv_iconst (v := 1) hx hb dX2_appendPartDigit_28 (by decide) ?_
    refine lv_iadd hx hb dX2_appendPartDigit_29 ?_
    refine va_put (D := (dC, dI)) (ci := 2) (v := .int ((nI k) + 1)) (ty := .int) (C := RX2) (T := TX2) (N := 8) hx hb hts kin_2 tyX2 tyX2_ok nmX2 hown hK hP hD hS 0 rfl rfl 7 (by decide) (hts _ (kcm kwm_32)) (fun _ h9 => h9) rfl (by decide +kernel) rfl rfl (Nat.le_of_ble_eq_true rfl) dX2_appendPartDigit_30 (fun H locs hP hD hS => ?_)
    have hP : va_P (dC, dI) kcl [(h, .inr (2, [.int y, .int mo, .int d, .int hh, .int mi, .int ss, .ref hp, .int ((nI k) + 1)])), (hp, .inl (cP, 242, .inl (upd g k (vp_nar .byte v.toInt8.toInt32))))] H := hP
    have hD : va_D A [(h, .inr (2, [.int y, .int mo, .int d, .int hh, .int mi, .int ss, .ref hp, .int ((nI k) + 1)])), (hp, .inl (cP, 242, .inl (upd g k (vp_nar .byte v.toInt8.toInt32))))] := hD
    rw [pk_vb] at hP hD
    have hP9 : va_P (dC, dI) kcl [(h, .inr (2, [.int y, .int mo, .int d, .int hh, .int mi, .int ss, .ref hp, .int (nI (rApp g k v).2)])), (hp, .inl (cP, 242, .inl (rApp g k v).1))] H := by
      simp only [rApp, if_pos hlt, nI_succ]
      exact hP.sub [0, 1] rfl
    have hD9 : va_D A [(h, .inr (2, [.int y, .int mo, .int d, .int hh, .int mi, .int ss, .ref hp, .int (nI (rApp g k v).2)])), (hp, .inl (cP, 242, .inl (rApp g k v).1))] := by
      simp only [rApp, if_pos hlt, nI_succ]
      exact hD.sub [0, 1] (by decide) rfl
    exact kc_vret hx hb hr hlocks hP9 hD9 hS dX2_appendPartDigit_33
def dayBack (y mo d : Int32) : Int32 × Int32 × Int32 :=
  if (d - 1) ≤ 0 then
    if (mo - 1) = 0 then
      (y - 1, 12, daysM (y - 1) 12)
    else
      (y, mo - 1, daysM y (mo - 1))
  else
    (y, mo, d - 1)
set_option maxHeartbeats 4000000 in
set_option maxRecDepth 100000 in
theorem c_Mo_goDayBack (l : Launch) (dC : Nat → ClassId) (dI : Nat → Nat → Nat) (st sz : Nat) (h : Nat) (y : Int32) (mo : Int32) (d : Int32) (hh : Int32) (mi : Int32) (ss : Int32) (hp : Nat) (k : Nat)  : Met l yX2_goDayBack wsX2_goDayBack ({ frames := 2, cells := 0, slots := 0, locals := 42 }) (kc_Pc (dC, dI) kcl st sz [.ref h] [(h, .inr (2, [.int y, .int mo, .int d, .int hh, .int mi, .int ss, .ref hp, .int (nI k)]))] []) (kc_Qv (dC, dI) kcl [(h, .inr (2, [.int (dayBack y mo d).1, .int (dayBack y mo d).2.1, .int (dayBack y mo d).2.2, .int hh, .int mi, .int ss, .ref hp, .int (nI k)]))] (va_A [(h, .inr (2, [.int y, .int mo, .int d, .int hh, .int mi, .int ss, .ref hp, .int (nI k)]))] sz)) 0 0 (va_A [(h, .inr (2, [.int y, .int mo, .int d, .int hh, .int mi, .int ss, .ref hp, .int (nI k)]))] sz) := by
  refine kc_ofW (Qc := fun A => (kc_Qv (dC, dI) kcl [(h, .inr (2, [.int (dayBack y mo d).1, .int (dayBack y mo d).2.1, .int (dayBack y mo d).2.2, .int hh, .int mi, .int ss, .ref hp, .int (nI k)]))] A)) (cc := cX2_goDayBack) (maxL := 1) (ret := none) (by decide) rfl (Nat.le_of_ble_eq_true rfl) ?_
  intro p e s m below meth c A ls Cx hA hG hK hP hD hS hl
  obtain ⟨hx, hb, hr, hml, hown, hts, hlocks, hnm⟩ := id Cx
  have hl : lv_has ls 1 [(0, .ref h)] := hl
  refine lv_aload_n hx hb dX2_goDayBack_0 rfl (lv_at hl 0 rfl) ?_
  refine lv_dup hx hb dX2_goDayBack_1 rfl ?_
  refine va_get (D := (dC, dI)) (ci := 2) (v := .int d) (C := RX2) (T := TX2) (N := 8) hx hb hts kin_2 hown hK hP 0 rfl rfl 2 (by decide) (hts _ (kcm kwm_34)) (fun _ h9 => h9) rfl dX2_goDayBack_2 ?_
  refine lv_iconst (v := 1) hx hb dX2_goDayBack_5 (by decide) ?_
  refine lv_isub hx hb dX2_goDayBack_6 ?_
  refine va_put (D := (dC, dI)) (ci := 2) (v := .int (d - 1)) (ty := .int) (C := RX2) (T := TX2) (N := 8) hx hb hts kin_2 tyX2 tyX2_ok nmX2 hown hK hP hD hS 0 rfl rfl 2 (by decide) (hts _ (kcm kwm_34)) (fun _ h9 => h9) rfl (by decide +kernel) rfl rfl (Nat.le_of_ble_eq_true rfl) dX2_goDayBack_7 (fun H locs hP hD hS => ?_)
  have hP : va_P (dC, dI) kcl [(h, .inr (2, [.int y, .int mo, .int (d - 1), .int hh, .int mi, .int ss, .ref hp, .int (nI k)]))] H := hP
  have hD : va_D A [(h, .inr (2, [.int y, .int mo, .int (d - 1), .int hh, .int mi, .int ss, .ref hp, .int (nI k)]))] := hD
  refine lv_aload_n hx hb dX2_goDayBack_10 rfl (lv_at hl 0 rfl) ?_
  refine va_get (D := (dC, dI)) (ci := 2) (v := .int (d - 1)) (C := RX2) (T := TX2) (N := 8) hx hb hts kin_2 hown hK hP 0 rfl rfl 2 (by decide) (hts _ (kcm kwm_34)) (fun _ h9 => h9) rfl dX2_goDayBack_11 ?_
  refine lv_if_le (tgt := 18) hx hb dX2_goDayBack_14 (by decide) (fun c_14 => ?_) (fun c_14 => ?_)
  · refine lv_aload_n hx hb dX2_goDayBack_18 rfl (lv_at hl 0 rfl) ?_
    refine lv_dup hx hb dX2_goDayBack_19 rfl ?_
    refine va_get (D := (dC, dI)) (ci := 2) (v := .int mo) (C := RX2) (T := TX2) (N := 8) hx hb hts kin_2 hown hK hP 0 rfl rfl 1 (by decide) (hts _ (kcm kwm_35)) (fun _ h9 => h9) rfl dX2_goDayBack_20 ?_
    refine lv_iconst (v := 1) hx hb dX2_goDayBack_23 (by decide) ?_
    refine lv_isub hx hb dX2_goDayBack_24 ?_
    refine va_put (D := (dC, dI)) (ci := 2) (v := .int (mo - 1)) (ty := .int) (C := RX2) (T := TX2) (N := 8) hx hb hts kin_2 tyX2 tyX2_ok nmX2 hown hK hP hD hS 0 rfl rfl 1 (by decide) (hts _ (kcm kwm_35)) (fun _ h9 => h9) rfl (by decide +kernel) rfl rfl (Nat.le_of_ble_eq_true rfl) dX2_goDayBack_25 (fun H locs hP hD hS => ?_)
    have hP : va_P (dC, dI) kcl [(h, .inr (2, [.int y, .int (mo - 1), .int (d - 1), .int hh, .int mi, .int ss, .ref hp, .int (nI k)]))] H := hP
    have hD : va_D A [(h, .inr (2, [.int y, .int (mo - 1), .int (d - 1), .int hh, .int mi, .int ss, .ref hp, .int (nI k)]))] := hD
    refine lv_aload_n hx hb dX2_goDayBack_28 rfl (lv_at hl 0 rfl) ?_
    refine va_get (D := (dC, dI)) (ci := 2) (v := .int (mo - 1)) (C := RX2) (T := TX2) (N := 8) hx hb hts kin_2 hown hK hP 0 rfl rfl 1 (by decide) (hts _ (kcm kwm_35)) (fun _ h9 => h9) rfl dX2_goDayBack_29 ?_
    refine lv_if_ne (tgt := 51) hx hb dX2_goDayBack_32 (by decide) (fun c_32 => ?_) (fun c_32 => ?_)
    · refine lv_aload_n hx hb dX2_goDayBack_51 rfl (lv_at hl 0 rfl) ?_
      refine lv_aload_n hx hb dX2_goDayBack_52 rfl (lv_at hl 0 rfl) ?_
      refine va_get (D := (dC, dI)) (ci := 2) (v := .int y) (C := RX2) (T := TX2) (N := 8) hx hb hts kin_2 hown hK hP 0 rfl rfl 0 (by decide) (hts _ (kcm kwm_36)) (fun _ h9 => h9) rfl dX2_goDayBack_53 ?_
      refine lv_aload_n hx hb dX2_goDayBack_56 rfl (lv_at hl 0 rfl) ?_
      refine va_get (D := (dC, dI)) (ci := 2) (v := .int (mo - 1)) (C := RX2) (T := TX2) (N := 8) hx hb hts kin_2 hown hK hP 0 rfl rfl 1 (by decide) (hts _ (kcm kwm_35)) (fun _ h9 => h9) rfl dX2_goDayBack_57 ?_
      have hPc := hP.sub (ws' := []) [] rfl
      have hDc := hD.sub (ws' := []) [] (by decide) rfl
      have hKc := hK.sub (tys' := []) [] rfl
      have hFc := va_free (wc := []) hD hS hA [] rfl
      refine kc_callSi (val := daysM y (mo - 1)) (va_runSN (As := [.int y, .int (mo - 1)]) (rest := [.ref h]) ⟨hx, hb, hml, hown, hts⟩ (c_CT_daysOfMonth l dC dI st H.size y (mo - 1) ) ⟨va_cnB 2 hts (kwC kwm_16) rfl rfl rfl (kg_nest hG (List.mem_of_getElem? (i := 4) (a := Cond.methodLinkNest RX2 47 yX4_daysOfMonth "ClockTexts") rfl)) (hts _ (kcm kwm_14)) (by decide +kernel) ⟨Nat.le_of_ble_eq_true rfl, Nat.le_of_ble_eq_true rfl⟩, hts _ (kcm kwm_37), trivial⟩ ⟨kc_blind, kc_pre hG hS hFc hKc hPc hDc⟩ rfl rfl hl.1 rfl (lv_room (Nat.le_of_ble_eq_true rfl)) dX2_goDayBack_60 ⟨Nat.le_of_ble_eq_true rfl, Nat.le_of_ble_eq_true rfl⟩) ?_
      refine va_put (D := (dC, dI)) (ci := 2) (v := .int (daysM y (mo - 1))) (ty := .int) (C := RX2) (T := TX2) (N := 8) hx hb hts kin_2 tyX2 tyX2_ok nmX2 hown hK hP hD hS 0 rfl rfl 2 (by decide) (hts _ (kcm kwm_34)) (fun _ h9 => h9) rfl (by decide +kernel) rfl rfl (Nat.le_of_ble_eq_true rfl) dX2_goDayBack_63 (fun H locs hP hD hS => ?_)
      have hP : va_P (dC, dI) kcl [(h, .inr (2, [.int y, .int (mo - 1), .int (daysM y (mo - 1)), .int hh, .int mi, .int ss, .ref hp, .int (nI k)]))] H := hP
      have hD : va_D A [(h, .inr (2, [.int y, .int (mo - 1), .int (daysM y (mo - 1)), .int hh, .int mi, .int ss, .ref hp, .int (nI k)]))] := hD
      have hF9 : dayBack y mo d = (y, mo - 1, daysM y (mo - 1)) := by
        first | (simp only [dayBack, if_pos c_14, if_neg c_32]; done) | rfl
      have hP9 : va_P (dC, dI) kcl [(h, .inr (2, [.int (dayBack y mo d).1, .int (dayBack y mo d).2.1, .int (dayBack y mo d).2.2, .int hh, .int mi, .int ss, .ref hp, .int (nI k)]))] H := by
        try rw [hF9]
        exact hP.sub [0] rfl
      have hD9 : va_D A [(h, .inr (2, [.int (dayBack y mo d).1, .int (dayBack y mo d).2.1, .int (dayBack y mo d).2.2, .int hh, .int mi, .int ss, .ref hp, .int (nI k)]))] := by
        try rw [hF9]
        exact hD.sub [0] (by decide) rfl
      exact kc_vret hx hb hr hlocks hP9 hD9 hS dX2_goDayBack_66
    · refine lv_aload_n hx hb dX2_goDayBack_35 rfl (lv_at hl 0 rfl) ?_
      refine lv_bipush (v := 12) hx hb dX2_goDayBack_36 (by decide) ?_
      refine va_put (D := (dC, dI)) (ci := 2) (v := .int 12) (ty := .int) (C := RX2) (T := TX2) (N := 8) hx hb hts kin_2 tyX2 tyX2_ok nmX2 hown hK hP hD hS 0 rfl rfl 1 (by decide) (hts _ (kcm kwm_35)) (fun _ h9 => h9) rfl (by decide +kernel) rfl rfl (Nat.le_of_ble_eq_true rfl) dX2_goDayBack_38 (fun H locs hP hD hS => ?_)
      have hP : va_P (dC, dI) kcl [(h, .inr (2, [.int y, .int 12, .int (d - 1), .int hh, .int mi, .int ss, .ref hp, .int (nI k)]))] H := hP
      have hD : va_D A [(h, .inr (2, [.int y, .int 12, .int (d - 1), .int hh, .int mi, .int ss, .ref hp, .int (nI k)]))] := hD
      refine lv_aload_n hx hb dX2_goDayBack_41 rfl (lv_at hl 0 rfl) ?_
      refine lv_dup hx hb dX2_goDayBack_42 rfl ?_
      refine va_get (D := (dC, dI)) (ci := 2) (v := .int y) (C := RX2) (T := TX2) (N := 8) hx hb hts kin_2 hown hK hP 0 rfl rfl 0 (by decide) (hts _ (kcm kwm_36)) (fun _ h9 => h9) rfl dX2_goDayBack_43 ?_
      refine lv_iconst (v := 1) hx hb dX2_goDayBack_46 (by decide) ?_
      refine lv_isub hx hb dX2_goDayBack_47 ?_
      refine va_put (D := (dC, dI)) (ci := 2) (v := .int (y - 1)) (ty := .int) (C := RX2) (T := TX2) (N := 8) hx hb hts kin_2 tyX2 tyX2_ok nmX2 hown hK hP hD hS 0 rfl rfl 0 (by decide) (hts _ (kcm kwm_36)) (fun _ h9 => h9) rfl (by decide +kernel) rfl rfl (Nat.le_of_ble_eq_true rfl) dX2_goDayBack_48 (fun H locs hP hD hS => ?_)
      have hP : va_P (dC, dI) kcl [(h, .inr (2, [.int (y - 1), .int 12, .int (d - 1), .int hh, .int mi, .int ss, .ref hp, .int (nI k)]))] H := hP
      have hD : va_D A [(h, .inr (2, [.int (y - 1), .int 12, .int (d - 1), .int hh, .int mi, .int ss, .ref hp, .int (nI k)]))] := hD
      refine lv_aload_n hx hb dX2_goDayBack_51 rfl (lv_at hl 0 rfl) ?_
      refine lv_aload_n hx hb dX2_goDayBack_52 rfl (lv_at hl 0 rfl) ?_
      refine va_get (D := (dC, dI)) (ci := 2) (v := .int (y - 1)) (C := RX2) (T := TX2) (N := 8) hx hb hts kin_2 hown hK hP 0 rfl rfl 0 (by decide) (hts _ (kcm kwm_36)) (fun _ h9 => h9) rfl dX2_goDayBack_53 ?_
      refine lv_aload_n hx hb dX2_goDayBack_56 rfl (lv_at hl 0 rfl) ?_
      refine va_get (D := (dC, dI)) (ci := 2) (v := .int 12) (C := RX2) (T := TX2) (N := 8) hx hb hts kin_2 hown hK hP 0 rfl rfl 1 (by decide) (hts _ (kcm kwm_35)) (fun _ h9 => h9) rfl dX2_goDayBack_57 ?_
      have hPc := hP.sub (ws' := []) [] rfl
      have hDc := hD.sub (ws' := []) [] (by decide) rfl
      have hKc := hK.sub (tys' := []) [] rfl
      have hFc := va_free (wc := []) hD hS hA [] rfl
      refine kc_callSi (val := daysM (y - 1) 12) (va_runSN (As := [.int (y - 1), .int 12]) (rest := [.ref h]) ⟨hx, hb, hml, hown, hts⟩ (c_CT_daysOfMonth l dC dI st H.size (y - 1) 12 ) ⟨va_cnB 2 hts (kwC kwm_16) rfl rfl rfl (kg_nest hG (List.mem_of_getElem? (i := 4) (a := Cond.methodLinkNest RX2 47 yX4_daysOfMonth "ClockTexts") rfl)) (hts _ (kcm kwm_14)) (by decide +kernel) ⟨Nat.le_of_ble_eq_true rfl, Nat.le_of_ble_eq_true rfl⟩, hts _ (kcm kwm_37), trivial⟩ ⟨kc_blind, kc_pre hG hS hFc hKc hPc hDc⟩ rfl rfl hl.1 rfl (lv_room (Nat.le_of_ble_eq_true rfl)) dX2_goDayBack_60 ⟨Nat.le_of_ble_eq_true rfl, Nat.le_of_ble_eq_true rfl⟩) ?_
      refine va_put (D := (dC, dI)) (ci := 2) (v := .int (daysM (y - 1) 12)) (ty := .int) (C := RX2) (T := TX2) (N := 8) hx hb hts kin_2 tyX2 tyX2_ok nmX2 hown hK hP hD hS 0 rfl rfl 2 (by decide) (hts _ (kcm kwm_34)) (fun _ h9 => h9) rfl (by decide +kernel) rfl rfl (Nat.le_of_ble_eq_true rfl) dX2_goDayBack_63 (fun H locs hP hD hS => ?_)
      have hP : va_P (dC, dI) kcl [(h, .inr (2, [.int (y - 1), .int 12, .int (daysM (y - 1) 12), .int hh, .int mi, .int ss, .ref hp, .int (nI k)]))] H := hP
      have hD : va_D A [(h, .inr (2, [.int (y - 1), .int 12, .int (daysM (y - 1) 12), .int hh, .int mi, .int ss, .ref hp, .int (nI k)]))] := hD
      have hF9 : dayBack y mo d = (y - 1, 12, daysM (y - 1) 12) := by
        first | (simp only [dayBack, if_pos c_14, if_pos c_32]; done) | rfl
      have hP9 : va_P (dC, dI) kcl [(h, .inr (2, [.int (dayBack y mo d).1, .int (dayBack y mo d).2.1, .int (dayBack y mo d).2.2, .int hh, .int mi, .int ss, .ref hp, .int (nI k)]))] H := by
        try rw [hF9]
        exact hP.sub [0] rfl
      have hD9 : va_D A [(h, .inr (2, [.int (dayBack y mo d).1, .int (dayBack y mo d).2.1, .int (dayBack y mo d).2.2, .int hh, .int mi, .int ss, .ref hp, .int (nI k)]))] := by
        try rw [hF9]
        exact hD.sub [0] (by decide) rfl
      exact kc_vret hx hb hr hlocks hP9 hD9 hS dX2_goDayBack_66
  · have hF9 : dayBack y mo d = (y, mo, d - 1) := by
      first | (simp only [dayBack, if_neg c_14]; done) | rfl
    have hP9 : va_P (dC, dI) kcl [(h, .inr (2, [.int (dayBack y mo d).1, .int (dayBack y mo d).2.1, .int (dayBack y mo d).2.2, .int hh, .int mi, .int ss, .ref hp, .int (nI k)]))] H := by
      try rw [hF9]
      exact hP.sub [0] rfl
    have hD9 : va_D A [(h, .inr (2, [.int (dayBack y mo d).1, .int (dayBack y mo d).2.1, .int (dayBack y mo d).2.2, .int hh, .int mi, .int ss, .ref hp, .int (nI k)]))] := by
      try rw [hF9]
      exact hD.sub [0] (by decide) rfl
    exact kc_vret hx hb hr hlocks hP9 hD9 hS dX2_goDayBack_17
def dayOn (y mo d : Int32) : Int32 × Int32 × Int32 :=
  if (daysM y mo) < (d + 1) then
    if (mo + 1) ≤ 12 then
      (y, mo + 1, 1)
    else
      (y + 1, 1, 1)
  else
    (y, mo, d + 1)
set_option maxHeartbeats 4000000 in
set_option maxRecDepth 100000 in
theorem c_Mo_goDayOn (l : Launch) (dC : Nat → ClassId) (dI : Nat → Nat → Nat) (st sz : Nat) (h : Nat) (y : Int32) (mo : Int32) (d : Int32) (hh : Int32) (mi : Int32) (ss : Int32) (hp : Nat) (k : Nat)  : Met l yX2_goDayOn wsX2_goDayOn ({ frames := 2, cells := 0, slots := 0, locals := 42 }) (kc_Pc (dC, dI) kcl st sz [.ref h] [(h, .inr (2, [.int y, .int mo, .int d, .int hh, .int mi, .int ss, .ref hp, .int (nI k)]))] []) (kc_Qv (dC, dI) kcl [(h, .inr (2, [.int (dayOn y mo d).1, .int (dayOn y mo d).2.1, .int (dayOn y mo d).2.2, .int hh, .int mi, .int ss, .ref hp, .int (nI k)]))] (va_A [(h, .inr (2, [.int y, .int mo, .int d, .int hh, .int mi, .int ss, .ref hp, .int (nI k)]))] sz)) 0 0 (va_A [(h, .inr (2, [.int y, .int mo, .int d, .int hh, .int mi, .int ss, .ref hp, .int (nI k)]))] sz) := by
  refine kc_ofW (Qc := fun A => (kc_Qv (dC, dI) kcl [(h, .inr (2, [.int (dayOn y mo d).1, .int (dayOn y mo d).2.1, .int (dayOn y mo d).2.2, .int hh, .int mi, .int ss, .ref hp, .int (nI k)]))] A)) (cc := cX2_goDayOn) (maxL := 1) (ret := none) (by decide) rfl (Nat.le_of_ble_eq_true rfl) ?_
  intro p e s m below meth c A ls Cx hA hG hK hP hD hS hl
  obtain ⟨hx, hb, hr, hml, hown, hts, hlocks, hnm⟩ := id Cx
  have hl : lv_has ls 1 [(0, .ref h)] := hl
  refine lv_aload_n hx hb dX2_goDayOn_0 rfl (lv_at hl 0 rfl) ?_
  refine lv_dup hx hb dX2_goDayOn_1 rfl ?_
  refine va_get (D := (dC, dI)) (ci := 2) (v := .int d) (C := RX2) (T := TX2) (N := 8) hx hb hts kin_2 hown hK hP 0 rfl rfl 2 (by decide) (hts _ (kcm kwm_34)) (fun _ h9 => h9) rfl dX2_goDayOn_2 ?_
  refine lv_iconst (v := 1) hx hb dX2_goDayOn_5 (by decide) ?_
  refine lv_iadd hx hb dX2_goDayOn_6 ?_
  refine va_put (D := (dC, dI)) (ci := 2) (v := .int (d + 1)) (ty := .int) (C := RX2) (T := TX2) (N := 8) hx hb hts kin_2 tyX2 tyX2_ok nmX2 hown hK hP hD hS 0 rfl rfl 2 (by decide) (hts _ (kcm kwm_34)) (fun _ h9 => h9) rfl (by decide +kernel) rfl rfl (Nat.le_of_ble_eq_true rfl) dX2_goDayOn_7 (fun H locs hP hD hS => ?_)
  have hP : va_P (dC, dI) kcl [(h, .inr (2, [.int y, .int mo, .int (d + 1), .int hh, .int mi, .int ss, .ref hp, .int (nI k)]))] H := hP
  have hD : va_D A [(h, .inr (2, [.int y, .int mo, .int (d + 1), .int hh, .int mi, .int ss, .ref hp, .int (nI k)]))] := hD
  refine lv_aload_n hx hb dX2_goDayOn_10 rfl (lv_at hl 0 rfl) ?_
  refine va_get (D := (dC, dI)) (ci := 2) (v := .int (d + 1)) (C := RX2) (T := TX2) (N := 8) hx hb hts kin_2 hown hK hP 0 rfl rfl 2 (by decide) (hts _ (kcm kwm_34)) (fun _ h9 => h9) rfl dX2_goDayOn_11 ?_
  refine lv_aload_n hx hb dX2_goDayOn_14 rfl (lv_at hl 0 rfl) ?_
  refine va_get (D := (dC, dI)) (ci := 2) (v := .int y) (C := RX2) (T := TX2) (N := 8) hx hb hts kin_2 hown hK hP 0 rfl rfl 0 (by decide) (hts _ (kcm kwm_36)) (fun _ h9 => h9) rfl dX2_goDayOn_15 ?_
  refine lv_aload_n hx hb dX2_goDayOn_18 rfl (lv_at hl 0 rfl) ?_
  refine va_get (D := (dC, dI)) (ci := 2) (v := .int mo) (C := RX2) (T := TX2) (N := 8) hx hb hts kin_2 hown hK hP 0 rfl rfl 1 (by decide) (hts _ (kcm kwm_35)) (fun _ h9 => h9) rfl dX2_goDayOn_19 ?_
  have hPc := hP.sub (ws' := []) [] rfl
  have hDc := hD.sub (ws' := []) [] (by decide) rfl
  have hKc := hK.sub (tys' := []) [] rfl
  have hFc := va_free (wc := []) hD hS hA [] rfl
  refine kc_callSi (val := daysM y mo) (va_runSN (As := [.int y, .int mo]) (rest := [.int (d + 1)]) ⟨hx, hb, hml, hown, hts⟩ (c_CT_daysOfMonth l dC dI st H.size y mo ) ⟨va_cnB 2 hts (kwC kwm_16) rfl rfl rfl (kg_nest hG (List.mem_of_getElem? (i := 4) (a := Cond.methodLinkNest RX2 47 yX4_daysOfMonth "ClockTexts") rfl)) (hts _ (kcm kwm_14)) (by decide +kernel) ⟨Nat.le_of_ble_eq_true rfl, Nat.le_of_ble_eq_true rfl⟩, hts _ (kcm kwm_37), trivial⟩ ⟨kc_blind, kc_pre hG hS hFc hKc hPc hDc⟩ rfl rfl hl.1 rfl (lv_room (Nat.le_of_ble_eq_true rfl)) dX2_goDayOn_22 ⟨Nat.le_of_ble_eq_true rfl, Nat.le_of_ble_eq_true rfl⟩) ?_
  refine lv_icmp_gt (tgt := 29) hx hb dX2_goDayOn_25 (by decide) (fun c_25 => ?_) (fun c_25 => ?_)
  · refine lv_aload_n hx hb dX2_goDayOn_29 rfl (lv_at hl 0 rfl) ?_
    refine lv_iconst (v := 1) hx hb dX2_goDayOn_30 (by decide) ?_
    refine va_put (D := (dC, dI)) (ci := 2) (v := .int 1) (ty := .int) (C := RX2) (T := TX2) (N := 8) hx hb hts kin_2 tyX2 tyX2_ok nmX2 hown hK hP hD hS 0 rfl rfl 2 (by decide) (hts _ (kcm kwm_34)) (fun _ h9 => h9) rfl (by decide +kernel) rfl rfl (Nat.le_of_ble_eq_true rfl) dX2_goDayOn_31 (fun H locs hP hD hS => ?_)
    have hP : va_P (dC, dI) kcl [(h, .inr (2, [.int y, .int mo, .int 1, .int hh, .int mi, .int ss, .ref hp, .int (nI k)]))] H := hP
    have hD : va_D A [(h, .inr (2, [.int y, .int mo, .int 1, .int hh, .int mi, .int ss, .ref hp, .int (nI k)]))] := hD
    refine lv_aload_n hx hb dX2_goDayOn_34 rfl (lv_at hl 0 rfl) ?_
    refine lv_dup hx hb dX2_goDayOn_35 rfl ?_
    refine va_get (D := (dC, dI)) (ci := 2) (v := .int mo) (C := RX2) (T := TX2) (N := 8) hx hb hts kin_2 hown hK hP 0 rfl rfl 1 (by decide) (hts _ (kcm kwm_35)) (fun _ h9 => h9) rfl dX2_goDayOn_36 ?_
    refine lv_iconst (v := 1) hx hb dX2_goDayOn_39 (by decide) ?_
    refine lv_iadd hx hb dX2_goDayOn_40 ?_
    refine va_put (D := (dC, dI)) (ci := 2) (v := .int (mo + 1)) (ty := .int) (C := RX2) (T := TX2) (N := 8) hx hb hts kin_2 tyX2 tyX2_ok nmX2 hown hK hP hD hS 0 rfl rfl 1 (by decide) (hts _ (kcm kwm_35)) (fun _ h9 => h9) rfl (by decide +kernel) rfl rfl (Nat.le_of_ble_eq_true rfl) dX2_goDayOn_41 (fun H locs hP hD hS => ?_)
    have hP : va_P (dC, dI) kcl [(h, .inr (2, [.int y, .int (mo + 1), .int 1, .int hh, .int mi, .int ss, .ref hp, .int (nI k)]))] H := hP
    have hD : va_D A [(h, .inr (2, [.int y, .int (mo + 1), .int 1, .int hh, .int mi, .int ss, .ref hp, .int (nI k)]))] := hD
    refine lv_aload_n hx hb dX2_goDayOn_44 rfl (lv_at hl 0 rfl) ?_
    refine va_get (D := (dC, dI)) (ci := 2) (v := .int (mo + 1)) (C := RX2) (T := TX2) (N := 8) hx hb hts kin_2 hown hK hP 0 rfl rfl 1 (by decide) (hts _ (kcm kwm_35)) (fun _ h9 => h9) rfl dX2_goDayOn_45 ?_
    refine lv_bipush (v := 12) hx hb dX2_goDayOn_48 (by decide) ?_
    refine lv_icmp_le (tgt := 68) hx hb dX2_goDayOn_50 (by decide) (fun c_50 => ?_) (fun c_50 => ?_)
    · have hF9 : dayOn y mo d = (y, mo + 1, 1) := by
        first | (simp only [dayOn, if_pos c_25, if_pos c_50]; done) | rfl
      have hP9 : va_P (dC, dI) kcl [(h, .inr (2, [.int (dayOn y mo d).1, .int (dayOn y mo d).2.1, .int (dayOn y mo d).2.2, .int hh, .int mi, .int ss, .ref hp, .int (nI k)]))] H := by
        try rw [hF9]
        exact hP.sub [0] rfl
      have hD9 : va_D A [(h, .inr (2, [.int (dayOn y mo d).1, .int (dayOn y mo d).2.1, .int (dayOn y mo d).2.2, .int hh, .int mi, .int ss, .ref hp, .int (nI k)]))] := by
        try rw [hF9]
        exact hD.sub [0] (by decide) rfl
      exact kc_vret hx hb hr hlocks hP9 hD9 hS dX2_goDayOn_68
    · refine lv_aload_n hx hb dX2_goDayOn_53 rfl (lv_at hl 0 rfl) ?_
      refine lv_iconst (v := 1) hx hb dX2_goDayOn_54 (by decide) ?_
      refine va_put (D := (dC, dI)) (ci := 2) (v := .int 1) (ty := .int) (C := RX2) (T := TX2) (N := 8) hx hb hts kin_2 tyX2 tyX2_ok nmX2 hown hK hP hD hS 0 rfl rfl 1 (by decide) (hts _ (kcm kwm_35)) (fun _ h9 => h9) rfl (by decide +kernel) rfl rfl (Nat.le_of_ble_eq_true rfl) dX2_goDayOn_55 (fun H locs hP hD hS => ?_)
      have hP : va_P (dC, dI) kcl [(h, .inr (2, [.int y, .int 1, .int 1, .int hh, .int mi, .int ss, .ref hp, .int (nI k)]))] H := hP
      have hD : va_D A [(h, .inr (2, [.int y, .int 1, .int 1, .int hh, .int mi, .int ss, .ref hp, .int (nI k)]))] := hD
      refine lv_aload_n hx hb dX2_goDayOn_58 rfl (lv_at hl 0 rfl) ?_
      refine lv_dup hx hb dX2_goDayOn_59 rfl ?_
      refine va_get (D := (dC, dI)) (ci := 2) (v := .int y) (C := RX2) (T := TX2) (N := 8) hx hb hts kin_2 hown hK hP 0 rfl rfl 0 (by decide) (hts _ (kcm kwm_36)) (fun _ h9 => h9) rfl dX2_goDayOn_60 ?_
      refine lv_iconst (v := 1) hx hb dX2_goDayOn_63 (by decide) ?_
      refine lv_iadd hx hb dX2_goDayOn_64 ?_
      refine va_put (D := (dC, dI)) (ci := 2) (v := .int (y + 1)) (ty := .int) (C := RX2) (T := TX2) (N := 8) hx hb hts kin_2 tyX2 tyX2_ok nmX2 hown hK hP hD hS 0 rfl rfl 0 (by decide) (hts _ (kcm kwm_36)) (fun _ h9 => h9) rfl (by decide +kernel) rfl rfl (Nat.le_of_ble_eq_true rfl) dX2_goDayOn_65 (fun H locs hP hD hS => ?_)
      have hP : va_P (dC, dI) kcl [(h, .inr (2, [.int (y + 1), .int 1, .int 1, .int hh, .int mi, .int ss, .ref hp, .int (nI k)]))] H := hP
      have hD : va_D A [(h, .inr (2, [.int (y + 1), .int 1, .int 1, .int hh, .int mi, .int ss, .ref hp, .int (nI k)]))] := hD
      have hF9 : dayOn y mo d = (y + 1, 1, 1) := by
        first | (simp only [dayOn, if_pos c_25, if_neg c_50]; done) | rfl
      have hP9 : va_P (dC, dI) kcl [(h, .inr (2, [.int (dayOn y mo d).1, .int (dayOn y mo d).2.1, .int (dayOn y mo d).2.2, .int hh, .int mi, .int ss, .ref hp, .int (nI k)]))] H := by
        try rw [hF9]
        exact hP.sub [0] rfl
      have hD9 : va_D A [(h, .inr (2, [.int (dayOn y mo d).1, .int (dayOn y mo d).2.1, .int (dayOn y mo d).2.2, .int hh, .int mi, .int ss, .ref hp, .int (nI k)]))] := by
        try rw [hF9]
        exact hD.sub [0] (by decide) rfl
      exact kc_vret hx hb hr hlocks hP9 hD9 hS dX2_goDayOn_68
  · have hF9 : dayOn y mo d = (y, mo, d + 1) := by
      first | (simp only [dayOn, if_neg c_25]; done) | rfl
    have hP9 : va_P (dC, dI) kcl [(h, .inr (2, [.int (dayOn y mo d).1, .int (dayOn y mo d).2.1, .int (dayOn y mo d).2.2, .int hh, .int mi, .int ss, .ref hp, .int (nI k)]))] H := by
      try rw [hF9]
      exact hP.sub [0] rfl
    have hD9 : va_D A [(h, .inr (2, [.int (dayOn y mo d).1, .int (dayOn y mo d).2.1, .int (dayOn y mo d).2.2, .int hh, .int mi, .int ss, .ref hp, .int (nI k)]))] := by
      try rw [hF9]
      exact hD.sub [0] (by decide) rfl
    exact kc_vret hx hb hr hlocks hP9 hD9 hS dX2_goDayOn_28
def movBy (y mo d hh mi v : Int32) : Int32 × Int32 × Int32 × Int32 × Int32 :=
  if 0 ≤ (((hh * 60) + mi) + v) then
    if (((hh * 60) + mi) + v) < 1440 then
      (y, mo, d, (((hh * 60) + mi) + v) / 60, (((hh * 60) + mi) + v) - (((hh * 60) + mi) + v) / 60 * 60)
    else
      let v_40 := dayOn y mo d
      (v_40.1, v_40.2.1, v_40.2.2, ((((hh * 60) + mi) + v) + (-1440)) / 60, ((((hh * 60) + mi) + v) + (-1440)) - ((((hh * 60) + mi) + v) + (-1440)) / 60 * 60)
  else
    let v_20 := dayBack y mo d
    (v_20.1, v_20.2.1, v_20.2.2, ((((hh * 60) + mi) + v) + 1440) / 60, ((((hh * 60) + mi) + v) + 1440) - ((((hh * 60) + mi) + v) + 1440) / 60 * 60)
set_option maxHeartbeats 4000000 in
set_option maxRecDepth 100000 in
theorem c_Mo_moveBy (l : Launch) (dC : Nat → ClassId) (dI : Nat → Nat → Nat) (st sz : Nat) (h : Nat) (y : Int32) (mo : Int32) (d : Int32) (hh : Int32) (mi : Int32) (ss : Int32) (hp : Nat) (k : Nat) (v : Int32)  : Met l yX2_moveBy wsX2_moveBy ({ frames := 3, cells := 0, slots := 0, locals := 62 }) (kc_Pc (dC, dI) kcl st sz [.ref h, .int v] [(h, .inr (2, [.int y, .int mo, .int d, .int hh, .int mi, .int ss, .ref hp, .int (nI k)]))] []) (kc_Qv (dC, dI) kcl [(h, .inr (2, [.int (movBy y mo d hh mi v).1, .int (movBy y mo d hh mi v).2.1, .int (movBy y mo d hh mi v).2.2.1, .int (movBy y mo d hh mi v).2.2.2.1, .int (movBy y mo d hh mi v).2.2.2.2, .int ss, .ref hp, .int (nI k)]))] (va_A [(h, .inr (2, [.int y, .int mo, .int d, .int hh, .int mi, .int ss, .ref hp, .int (nI k)]))] sz)) 0 0 (va_A [(h, .inr (2, [.int y, .int mo, .int d, .int hh, .int mi, .int ss, .ref hp, .int (nI k)]))] sz) := by
  refine kc_ofW (Qc := fun A => (kc_Qv (dC, dI) kcl [(h, .inr (2, [.int (movBy y mo d hh mi v).1, .int (movBy y mo d hh mi v).2.1, .int (movBy y mo d hh mi v).2.2.1, .int (movBy y mo d hh mi v).2.2.2.1, .int (movBy y mo d hh mi v).2.2.2.2, .int ss, .ref hp, .int (nI k)]))] A)) (cc := cX2_moveBy) (maxL := 3) (ret := none) (by decide) rfl (Nat.le_of_ble_eq_true rfl) ?_
  intro p e s m below meth c A ls Cx hA hG hK hP hD hS hl
  obtain ⟨hx, hb, hr, hml, hown, hts, hlocks, hnm⟩ := id Cx
  have hl : lv_has ls 3 [(0, .ref h), (1, .int v)] := hl
  refine lv_aload_n hx hb dX2_moveBy_0 rfl (lv_at hl 0 rfl) ?_
  refine va_get (D := (dC, dI)) (ci := 2) (v := .int hh) (C := RX2) (T := TX2) (N := 8) hx hb hts kin_2 hown hK hP 0 rfl rfl 3 (by decide) (hts _ (kcm kwm_38)) (fun _ h9 => h9) rfl dX2_moveBy_1 ?_
  refine lv_bipush (v := 60) hx hb dX2_moveBy_4 (by decide) ?_
  refine lv_imul hx hb dX2_moveBy_6 ?_
  refine lv_aload_n hx hb dX2_moveBy_7 rfl (lv_at hl 0 rfl) ?_
  refine va_get (D := (dC, dI)) (ci := 2) (v := .int mi) (C := RX2) (T := TX2) (N := 8) hx hb hts kin_2 hown hK hP 0 rfl rfl 4 (by decide) (hts _ (kcm kwm_30)) (fun _ h9 => h9) rfl dX2_moveBy_8 ?_
  refine lv_iadd hx hb dX2_moveBy_11 ?_
  refine lv_iload_n hx hb dX2_moveBy_12 rfl (lv_at hl 1 rfl) ?_
  refine lv_iadd hx hb dX2_moveBy_13 ?_
  refine lv_istore_n (lv' := [(2, .int (((hh * 60) + mi) + v)), (0, .ref h), (1, .int v)]) hx hb dX2_moveBy_14 rfl hl (by decide) rfl (fun ls hl => ?_)
  refine lv_iload_n hx hb dX2_moveBy_15 rfl (lv_at hl 0 rfl) ?_
  refine lv_if_ge (tgt := 32) hx hb dX2_moveBy_16 (by decide) (fun c_16 => ?_) (fun c_16 => ?_)
  · refine lv_iload_n hx hb dX2_moveBy_32 rfl (lv_at hl 0 rfl) ?_
    refine lv_sipush (v := 1440) hx hb dX2_moveBy_33 (by decide) ?_
    refine lv_icmp_lt (tgt := 49) hx hb dX2_moveBy_36 (by decide) (fun c_36 => ?_) (fun c_36 => ?_)
    · refine lv_aload_n hx hb dX2_moveBy_49 rfl (lv_at hl 1 rfl) ?_
      refine lv_iload_n hx hb dX2_moveBy_50 rfl (lv_at hl 0 rfl) ?_
      refine lv_bipush (v := 60) hx hb dX2_moveBy_51 (by decide) ?_
      refine lv_idiv hx hb dX2_moveBy_53 (by decide) ?_
      refine va_put (D := (dC, dI)) (ci := 2) (v := .int ((((hh * 60) + mi) + v) / 60)) (ty := .int) (C := RX2) (T := TX2) (N := 8) hx hb hts kin_2 tyX2 tyX2_ok nmX2 hown hK hP hD hS 0 rfl rfl 3 (by decide) (hts _ (kcm kwm_38)) (fun _ h9 => h9) rfl (by decide +kernel) rfl rfl (Nat.le_of_ble_eq_true rfl) dX2_moveBy_54 (fun H locs hP hD hS => ?_)
      have hP : va_P (dC, dI) kcl [(h, .inr (2, [.int y, .int mo, .int d, .int ((((hh * 60) + mi) + v) / 60), .int mi, .int ss, .ref hp, .int (nI k)]))] H := hP
      have hD : va_D A [(h, .inr (2, [.int y, .int mo, .int d, .int ((((hh * 60) + mi) + v) / 60), .int mi, .int ss, .ref hp, .int (nI k)]))] := hD
      refine lv_aload_n hx hb dX2_moveBy_57 rfl (lv_at hl 1 rfl) ?_
      refine lv_iload_n hx hb dX2_moveBy_58 rfl (lv_at hl 0 rfl) ?_
      refine lv_bipush (v := 60) hx hb dX2_moveBy_59 (by decide) ?_
      refine lv_irem hx hb dX2_moveBy_61 (by decide) ?_
      refine va_put (D := (dC, dI)) (ci := 2) (v := .int ((((hh * 60) + mi) + v) - (((hh * 60) + mi) + v) / 60 * 60)) (ty := .int) (C := RX2) (T := TX2) (N := 8) hx hb hts kin_2 tyX2 tyX2_ok nmX2 hown hK hP hD hS 0 rfl rfl 4 (by decide) (hts _ (kcm kwm_30)) (fun _ h9 => h9) rfl (by decide +kernel) rfl rfl (Nat.le_of_ble_eq_true rfl) dX2_moveBy_62 (fun H locs hP hD hS => ?_)
      have hP : va_P (dC, dI) kcl [(h, .inr (2, [.int y, .int mo, .int d, .int ((((hh * 60) + mi) + v) / 60), .int ((((hh * 60) + mi) + v) - (((hh * 60) + mi) + v) / 60 * 60), .int ss, .ref hp, .int (nI k)]))] H := hP
      have hD : va_D A [(h, .inr (2, [.int y, .int mo, .int d, .int ((((hh * 60) + mi) + v) / 60), .int ((((hh * 60) + mi) + v) - (((hh * 60) + mi) + v) / 60 * 60), .int ss, .ref hp, .int (nI k)]))] := hD
      have hF9 : movBy y mo d hh mi v = (y, mo, d, (((hh * 60) + mi) + v) / 60, (((hh * 60) + mi) + v) - (((hh * 60) + mi) + v) / 60 * 60) := by
        first | (simp only [movBy, if_pos c_16, if_pos c_36]; done) | rfl
      have hP9 : va_P (dC, dI) kcl [(h, .inr (2, [.int (movBy y mo d hh mi v).1, .int (movBy y mo d hh mi v).2.1, .int (movBy y mo d hh mi v).2.2.1, .int (movBy y mo d hh mi v).2.2.2.1, .int (movBy y mo d hh mi v).2.2.2.2, .int ss, .ref hp, .int (nI k)]))] H := by
        try rw [hF9]
        exact hP.sub [0] rfl
      have hD9 : va_D A [(h, .inr (2, [.int (movBy y mo d hh mi v).1, .int (movBy y mo d hh mi v).2.1, .int (movBy y mo d hh mi v).2.2.1, .int (movBy y mo d hh mi v).2.2.2.1, .int (movBy y mo d hh mi v).2.2.2.2, .int ss, .ref hp, .int (nI k)]))] := by
        try rw [hF9]
        exact hD.sub [0] (by decide) rfl
      exact kc_vret hx hb hr hlocks hP9 hD9 hS dX2_moveBy_65
    · refine lv_aload_n hx hb dX2_moveBy_39 rfl (lv_at hl 1 rfl) ?_
      have hPc := hP.sub (ws' := [(h, .inr (2, [.int y, .int mo, .int d, .int hh, .int mi, .int ss, .ref hp, .int (nI k)]))]) [0] rfl
      have hDc := hD.sub (ws' := [(h, .inr (2, [.int y, .int mo, .int d, .int hh, .int mi, .int ss, .ref hp, .int (nI k)]))]) [0] (by decide) rfl
      have hKc := hK.sub (tys' := []) [] rfl
      have hFc := va_free (wc := [(h, .inr (2, [.int y, .int mo, .int d, .int hh, .int mi, .int ss, .ref hp, .int (nI k)]))]) hD hS hA [0] rfl
      refine kc_callv (wr := []) (w1 := [(h, .inr (2, [.int (dayOn y mo d).1, .int (dayOn y mo d).2.1, .int (dayOn y mo d).2.2, .int hh, .int mi, .int ss, .ref hp, .int (nI k)]))]) (va_runV (As := []) (rest := []) ⟨hx, hb, hml, hown, hts⟩ (c_Mo_goDayOn l dC dI st s.heap.size h y mo d hh mi ss hp k ) (cwV 0 hts (kwV kwm_18 kwm_19 kwm_20 kwm_21 kwm_17) rfl rfl rfl (by decide +kernel) ⟨Nat.le_of_ble_eq_true rfl, Nat.le_of_ble_eq_true rfl⟩) ⟨kc_blind, va_recv hKc hPc (ci := 2) (q0 := 0) rfl rfl, kc_pre hG hS hFc hKc hPc hDc⟩ rfl rfl hl.1 rfl (lv_room (Nat.le_of_ble_eq_true rfl)) dX2_moveBy_40 ⟨Nat.le_of_ble_eq_true rfl, Nat.le_of_ble_eq_true rfl⟩) hP hD hS hFc [0] [] rfl rfl (by decide) (by decide) (fun H locs hP hD hS => ?_)
      have hP : va_P (dC, dI) kcl [(h, .inr (2, [.int (dayOn y mo d).1, .int (dayOn y mo d).2.1, .int (dayOn y mo d).2.2, .int hh, .int mi, .int ss, .ref hp, .int (nI k)]))] H := hP
      have hD : va_D A [(h, .inr (2, [.int (dayOn y mo d).1, .int (dayOn y mo d).2.1, .int (dayOn y mo d).2.2, .int hh, .int mi, .int ss, .ref hp, .int (nI k)]))] := hD
      generalize e_40 : dayOn y mo d = v_40 at hP hD ⊢
      have hP : va_P (dC, dI) kcl [(h, .inr (2, [.int v_40.1, .int v_40.2.1, .int v_40.2.2, .int hh, .int mi, .int ss, .ref hp, .int (nI k)]))] H := hP
      have hD : va_D A [(h, .inr (2, [.int v_40.1, .int v_40.2.1, .int v_40.2.2, .int hh, .int mi, .int ss, .ref hp, .int (nI k)]))] := hD
      refine lv_iincW (v := (((hh * 60) + mi) + v) + (-1440)) (lv' := [(2, .int ((((hh * 60) + mi) + v) + (-1440))), (0, .ref h), (1, .int v)]) hx hb dX2_moveBy_43 hl (k := 0) rfl (congrArg (fun z => (((hh * 60) + mi) + v) + z) (show Int32.ofInt (-1440) = (-1440 : Int32) by decide)) (by decide) rfl (fun ls hl => ?_)
      refine lv_aload_n hx hb dX2_moveBy_49 rfl (lv_at hl 1 rfl) ?_
      refine lv_iload_n hx hb dX2_moveBy_50 rfl (lv_at hl 0 rfl) ?_
      refine lv_bipush (v := 60) hx hb dX2_moveBy_51 (by decide) ?_
      refine lv_idiv hx hb dX2_moveBy_53 (by decide) ?_
      refine va_put (D := (dC, dI)) (ci := 2) (v := .int (((((hh * 60) + mi) + v) + (-1440)) / 60)) (ty := .int) (C := RX2) (T := TX2) (N := 8) hx hb hts kin_2 tyX2 tyX2_ok nmX2 hown hK hP hD hS 0 rfl rfl 3 (by decide) (hts _ (kcm kwm_38)) (fun _ h9 => h9) rfl (by decide +kernel) rfl rfl (Nat.le_of_ble_eq_true rfl) dX2_moveBy_54 (fun H locs hP hD hS => ?_)
      have hP : va_P (dC, dI) kcl [(h, .inr (2, [.int v_40.1, .int v_40.2.1, .int v_40.2.2, .int (((((hh * 60) + mi) + v) + (-1440)) / 60), .int mi, .int ss, .ref hp, .int (nI k)]))] H := hP
      have hD : va_D A [(h, .inr (2, [.int v_40.1, .int v_40.2.1, .int v_40.2.2, .int (((((hh * 60) + mi) + v) + (-1440)) / 60), .int mi, .int ss, .ref hp, .int (nI k)]))] := hD
      refine lv_aload_n hx hb dX2_moveBy_57 rfl (lv_at hl 1 rfl) ?_
      refine lv_iload_n hx hb dX2_moveBy_58 rfl (lv_at hl 0 rfl) ?_
      refine lv_bipush (v := 60) hx hb dX2_moveBy_59 (by decide) ?_
      refine lv_irem hx hb dX2_moveBy_61 (by decide) ?_
      refine va_put (D := (dC, dI)) (ci := 2) (v := .int (((((hh * 60) + mi) + v) + (-1440)) - ((((hh * 60) + mi) + v) + (-1440)) / 60 * 60)) (ty := .int) (C := RX2) (T := TX2) (N := 8) hx hb hts kin_2 tyX2 tyX2_ok nmX2 hown hK hP hD hS 0 rfl rfl 4 (by decide) (hts _ (kcm kwm_30)) (fun _ h9 => h9) rfl (by decide +kernel) rfl rfl (Nat.le_of_ble_eq_true rfl) dX2_moveBy_62 (fun H locs hP hD hS => ?_)
      have hP : va_P (dC, dI) kcl [(h, .inr (2, [.int v_40.1, .int v_40.2.1, .int v_40.2.2, .int (((((hh * 60) + mi) + v) + (-1440)) / 60), .int (((((hh * 60) + mi) + v) + (-1440)) - ((((hh * 60) + mi) + v) + (-1440)) / 60 * 60), .int ss, .ref hp, .int (nI k)]))] H := hP
      have hD : va_D A [(h, .inr (2, [.int v_40.1, .int v_40.2.1, .int v_40.2.2, .int (((((hh * 60) + mi) + v) + (-1440)) / 60), .int (((((hh * 60) + mi) + v) + (-1440)) - ((((hh * 60) + mi) + v) + (-1440)) / 60 * 60), .int ss, .ref hp, .int (nI k)]))] := hD
      have hF9 : movBy y mo d hh mi v = (v_40.1, v_40.2.1, v_40.2.2, ((((hh * 60) + mi) + v) + (-1440)) / 60, ((((hh * 60) + mi) + v) + (-1440)) - ((((hh * 60) + mi) + v) + (-1440)) / 60 * 60) := by
        subst e_40
        first | (simp only [movBy, if_pos c_16, if_neg c_36]; done) | rfl
      have hP9 : va_P (dC, dI) kcl [(h, .inr (2, [.int (movBy y mo d hh mi v).1, .int (movBy y mo d hh mi v).2.1, .int (movBy y mo d hh mi v).2.2.1, .int (movBy y mo d hh mi v).2.2.2.1, .int (movBy y mo d hh mi v).2.2.2.2, .int ss, .ref hp, .int (nI k)]))] H := by
        try rw [hF9]
        exact hP.sub [0] rfl
      have hD9 : va_D A [(h, .inr (2, [.int (movBy y mo d hh mi v).1, .int (movBy y mo d hh mi v).2.1, .int (movBy y mo d hh mi v).2.2.1, .int (movBy y mo d hh mi v).2.2.2.1, .int (movBy y mo d hh mi v).2.2.2.2, .int ss, .ref hp, .int (nI k)]))] := by
        try rw [hF9]
        exact hD.sub [0] (by decide) rfl
      exact kc_vret hx hb hr hlocks hP9 hD9 hS dX2_moveBy_65
  · refine lv_aload_n hx hb dX2_moveBy_19 rfl (lv_at hl 1 rfl) ?_
    have hPc := hP.sub (ws' := [(h, .inr (2, [.int y, .int mo, .int d, .int hh, .int mi, .int ss, .ref hp, .int (nI k)]))]) [0] rfl
    have hDc := hD.sub (ws' := [(h, .inr (2, [.int y, .int mo, .int d, .int hh, .int mi, .int ss, .ref hp, .int (nI k)]))]) [0] (by decide) rfl
    have hKc := hK.sub (tys' := []) [] rfl
    have hFc := va_free (wc := [(h, .inr (2, [.int y, .int mo, .int d, .int hh, .int mi, .int ss, .ref hp, .int (nI k)]))]) hD hS hA [0] rfl
    refine kc_callv (wr := []) (w1 := [(h, .inr (2, [.int (dayBack y mo d).1, .int (dayBack y mo d).2.1, .int (dayBack y mo d).2.2, .int hh, .int mi, .int ss, .ref hp, .int (nI k)]))]) (va_runV (As := []) (rest := []) ⟨hx, hb, hml, hown, hts⟩ (c_Mo_goDayBack l dC dI st s.heap.size h y mo d hh mi ss hp k ) (cwV 0 hts (kwV kwm_23 kwm_24 kwm_25 kwm_21 kwm_22) rfl rfl rfl (by decide +kernel) ⟨Nat.le_of_ble_eq_true rfl, Nat.le_of_ble_eq_true rfl⟩) ⟨kc_blind, va_recv hKc hPc (ci := 2) (q0 := 0) rfl rfl, kc_pre hG hS hFc hKc hPc hDc⟩ rfl rfl hl.1 rfl (lv_room (Nat.le_of_ble_eq_true rfl)) dX2_moveBy_20 ⟨Nat.le_of_ble_eq_true rfl, Nat.le_of_ble_eq_true rfl⟩) hP hD hS hFc [0] [] rfl rfl (by decide) (by decide) (fun H locs hP hD hS => ?_)
    have hP : va_P (dC, dI) kcl [(h, .inr (2, [.int (dayBack y mo d).1, .int (dayBack y mo d).2.1, .int (dayBack y mo d).2.2, .int hh, .int mi, .int ss, .ref hp, .int (nI k)]))] H := hP
    have hD : va_D A [(h, .inr (2, [.int (dayBack y mo d).1, .int (dayBack y mo d).2.1, .int (dayBack y mo d).2.2, .int hh, .int mi, .int ss, .ref hp, .int (nI k)]))] := hD
    generalize e_20 : dayBack y mo d = v_20 at hP hD ⊢
    have hP : va_P (dC, dI) kcl [(h, .inr (2, [.int v_20.1, .int v_20.2.1, .int v_20.2.2, .int hh, .int mi, .int ss, .ref hp, .int (nI k)]))] H := hP
    have hD : va_D A [(h, .inr (2, [.int v_20.1, .int v_20.2.1, .int v_20.2.2, .int hh, .int mi, .int ss, .ref hp, .int (nI k)]))] := hD
    refine lv_iincW (v := (((hh * 60) + mi) + v) + 1440) (lv' := [(2, .int ((((hh * 60) + mi) + v) + 1440)), (0, .ref h), (1, .int v)]) hx hb dX2_moveBy_23 hl (k := 0) rfl (congrArg (fun z => (((hh * 60) + mi) + v) + z) (show Int32.ofInt (1440) = (1440 : Int32) by decide)) (by decide) rfl (fun ls hl => ?_)
    refine lv_goto (tgt := 49) hx hb dX2_moveBy_29 (by decide) ?_
    refine lv_aload_n hx hb dX2_moveBy_49 rfl (lv_at hl 1 rfl) ?_
    refine lv_iload_n hx hb dX2_moveBy_50 rfl (lv_at hl 0 rfl) ?_
    refine lv_bipush (v := 60) hx hb dX2_moveBy_51 (by decide) ?_
    refine lv_idiv hx hb dX2_moveBy_53 (by decide) ?_
    refine va_put (D := (dC, dI)) (ci := 2) (v := .int (((((hh * 60) + mi) + v) + 1440) / 60)) (ty := .int) (C := RX2) (T := TX2) (N := 8) hx hb hts kin_2 tyX2 tyX2_ok nmX2 hown hK hP hD hS 0 rfl rfl 3 (by decide) (hts _ (kcm kwm_38)) (fun _ h9 => h9) rfl (by decide +kernel) rfl rfl (Nat.le_of_ble_eq_true rfl) dX2_moveBy_54 (fun H locs hP hD hS => ?_)
    have hP : va_P (dC, dI) kcl [(h, .inr (2, [.int v_20.1, .int v_20.2.1, .int v_20.2.2, .int (((((hh * 60) + mi) + v) + 1440) / 60), .int mi, .int ss, .ref hp, .int (nI k)]))] H := hP
    have hD : va_D A [(h, .inr (2, [.int v_20.1, .int v_20.2.1, .int v_20.2.2, .int (((((hh * 60) + mi) + v) + 1440) / 60), .int mi, .int ss, .ref hp, .int (nI k)]))] := hD
    refine lv_aload_n hx hb dX2_moveBy_57 rfl (lv_at hl 1 rfl) ?_
    refine lv_iload_n hx hb dX2_moveBy_58 rfl (lv_at hl 0 rfl) ?_
    refine lv_bipush (v := 60) hx hb dX2_moveBy_59 (by decide) ?_
    refine lv_irem hx hb dX2_moveBy_61 (by decide) ?_
    refine va_put (D := (dC, dI)) (ci := 2) (v := .int (((((hh * 60) + mi) + v) + 1440) - ((((hh * 60) + mi) + v) + 1440) / 60 * 60)) (ty := .int) (C := RX2) (T := TX2) (N := 8) hx hb hts kin_2 tyX2 tyX2_ok nmX2 hown hK hP hD hS 0 rfl rfl 4 (by decide) (hts _ (kcm kwm_30)) (fun _ h9 => h9) rfl (by decide +kernel) rfl rfl (Nat.le_of_ble_eq_true rfl) dX2_moveBy_62 (fun H locs hP hD hS => ?_)
    have hP : va_P (dC, dI) kcl [(h, .inr (2, [.int v_20.1, .int v_20.2.1, .int v_20.2.2, .int (((((hh * 60) + mi) + v) + 1440) / 60), .int (((((hh * 60) + mi) + v) + 1440) - ((((hh * 60) + mi) + v) + 1440) / 60 * 60), .int ss, .ref hp, .int (nI k)]))] H := hP
    have hD : va_D A [(h, .inr (2, [.int v_20.1, .int v_20.2.1, .int v_20.2.2, .int (((((hh * 60) + mi) + v) + 1440) / 60), .int (((((hh * 60) + mi) + v) + 1440) - ((((hh * 60) + mi) + v) + 1440) / 60 * 60), .int ss, .ref hp, .int (nI k)]))] := hD
    have hF9 : movBy y mo d hh mi v = (v_20.1, v_20.2.1, v_20.2.2, ((((hh * 60) + mi) + v) + 1440) / 60, ((((hh * 60) + mi) + v) + 1440) - ((((hh * 60) + mi) + v) + 1440) / 60 * 60) := by
      subst e_20
      first | (simp only [movBy, if_neg c_16]; done) | rfl
    have hP9 : va_P (dC, dI) kcl [(h, .inr (2, [.int (movBy y mo d hh mi v).1, .int (movBy y mo d hh mi v).2.1, .int (movBy y mo d hh mi v).2.2.1, .int (movBy y mo d hh mi v).2.2.2.1, .int (movBy y mo d hh mi v).2.2.2.2, .int ss, .ref hp, .int (nI k)]))] H := by
      try rw [hF9]
      exact hP.sub [0] rfl
    have hD9 : va_D A [(h, .inr (2, [.int (movBy y mo d hh mi v).1, .int (movBy y mo d hh mi v).2.1, .int (movBy y mo d hh mi v).2.2.1, .int (movBy y mo d hh mi v).2.2.2.1, .int (movBy y mo d hh mi v).2.2.2.2, .int ss, .ref hp, .int (nI k)]))] := by
      try rw [hF9]
      exact hD.sub [0] (by decide) rfl
    exact kc_vret hx hb hr hlocks hP9 hD9 hS dX2_moveBy_65
def dayNo (y mo d : Int32) : Int32 :=
  if mo < 1 then
    if mo ≤ 2 then
      (((y * 365) + ((((y + 3) / 4) - ((y + 99) / 100)) + ((y + 399) / 400))) + d) - 1
    else
      if (bI (leapY y)) = 0 then
        (((y * 365) + ((((y + 3) / 4) - ((y + 99) / 100)) + ((y + 399) / 400))) + d) - 1
      else
        ((((y * 365) + ((((y + 3) / 4) - ((y + 99) / 100)) + ((y + 399) / 400))) + d) - 1) + 1
  else
    if 12 < mo then
      if mo ≤ 2 then
        (((y * 365) + ((((y + 3) / 4) - ((y + 99) / 100)) + ((y + 399) / 400))) + d) - 1
      else
        if (bI (leapY y)) = 0 then
          (((y * 365) + ((((y + 3) / 4) - ((y + 99) / 100)) + ((y + 399) / 400))) + d) - 1
        else
          ((((y * 365) + ((((y + 3) / 4) - ((y + 99) / 100)) + ((y + 399) / 400))) + d) - 1) + 1
    else
      if mo ≤ 2 then
        ((((y * 365) + ((((y + 3) / 4) - ((y + 99) / 100)) + ((y + 399) / 400))) + d) - 1) + (dbm (mo - 1).toNatClampNeg)
      else
        if (bI (leapY y)) = 0 then
          ((((y * 365) + ((((y + 3) / 4) - ((y + 99) / 100)) + ((y + 399) / 400))) + d) - 1) + (dbm (mo - 1).toNatClampNeg)
        else
          (((((y * 365) + ((((y + 3) / 4) - ((y + 99) / 100)) + ((y + 399) / 400))) + d) - 1) + (dbm (mo - 1).toNatClampNeg)) + 1
set_option maxHeartbeats 4000000 in
set_option maxRecDepth 100000 in
theorem c_Mo_dayNumber (l : Launch) (dC : Nat → ClassId) (dI : Nat → Nat → Nat) (st sz : Nat) (h : Nat) (y : Int32) (mo : Int32) (d : Int32) (hh : Int32) (mi : Int32) (ss : Int32) (hp : Nat) (k : Nat)  : Met l yX2_dayNumber wsX2_dayNumber ({ frames := 1, cells := 0, slots := 0, locals := 20 }) (kc_Pc (dC, dI) kcl st sz [.ref h] [(h, .inr (2, [.int y, .int mo, .int d, .int hh, .int mi, .int ss, .ref hp, .int (nI k)]))] []) (vp_Si (fun r => r = dayNo y mo d)) 0 0 (fun _ => False) := by
  refine kc_ofS (cc := cX2_dayNumber) (maxL := 3) (ret := (some .int)) (by decide) rfl (Nat.le_of_ble_eq_true rfl) ?_
  intro p e s m below meth c A ls Cx hA hG hK hP hD hS hl
  obtain ⟨hx, hb, hr, hml, hown, hts, hlocks, hnm⟩ := id Cx
  have hl : lv_has ls 3 [(0, .ref h)] := hl
  refine lv_aload_n hx hb dX2_dayNumber_0 rfl (lv_at hl 0 rfl) ?_
  refine va_get (D := (dC, dI)) (ci := 2) (v := .int y) (C := RX2) (T := TX2) (N := 8) hx hb hts kin_2 hown hK hP 0 rfl rfl 0 (by decide) (hts _ (kcm kwm_36)) (fun _ h9 => h9) rfl dX2_dayNumber_1 ?_
  refine lv_iconst (v := 3) hx hb dX2_dayNumber_4 (by decide) ?_
  refine lv_iadd hx hb dX2_dayNumber_5 ?_
  refine lv_iconst (v := 4) hx hb dX2_dayNumber_6 (by decide) ?_
  refine lv_idiv hx hb dX2_dayNumber_7 (by decide) ?_
  refine lv_aload_n hx hb dX2_dayNumber_8 rfl (lv_at hl 0 rfl) ?_
  refine va_get (D := (dC, dI)) (ci := 2) (v := .int y) (C := RX2) (T := TX2) (N := 8) hx hb hts kin_2 hown hK hP 0 rfl rfl 0 (by decide) (hts _ (kcm kwm_36)) (fun _ h9 => h9) rfl dX2_dayNumber_9 ?_
  refine lv_bipush (v := 99) hx hb dX2_dayNumber_12 (by decide) ?_
  refine lv_iadd hx hb dX2_dayNumber_14 ?_
  refine lv_bipush (v := 100) hx hb dX2_dayNumber_15 (by decide) ?_
  refine lv_idiv hx hb dX2_dayNumber_17 (by decide) ?_
  refine lv_isub hx hb dX2_dayNumber_18 ?_
  refine lv_aload_n hx hb dX2_dayNumber_19 rfl (lv_at hl 0 rfl) ?_
  refine va_get (D := (dC, dI)) (ci := 2) (v := .int y) (C := RX2) (T := TX2) (N := 8) hx hb hts kin_2 hown hK hP 0 rfl rfl 0 (by decide) (hts _ (kcm kwm_36)) (fun _ h9 => h9) rfl dX2_dayNumber_20 ?_
  refine lv_sipush (v := 399) hx hb dX2_dayNumber_23 (by decide) ?_
  refine lv_iadd hx hb dX2_dayNumber_26 ?_
  refine lv_sipush (v := 400) hx hb dX2_dayNumber_27 (by decide) ?_
  refine lv_idiv hx hb dX2_dayNumber_30 (by decide) ?_
  refine lv_iadd hx hb dX2_dayNumber_31 ?_
  refine lv_istore_n (lv' := [(1, .int ((((y + 3) / 4) - ((y + 99) / 100)) + ((y + 399) / 400))), (0, .ref h)]) hx hb dX2_dayNumber_32 rfl hl (by decide) rfl (fun ls hl => ?_)
  refine lv_aload_n hx hb dX2_dayNumber_33 rfl (lv_at hl 1 rfl) ?_
  refine va_get (D := (dC, dI)) (ci := 2) (v := .int y) (C := RX2) (T := TX2) (N := 8) hx hb hts kin_2 hown hK hP 0 rfl rfl 0 (by decide) (hts _ (kcm kwm_36)) (fun _ h9 => h9) rfl dX2_dayNumber_34 ?_
  refine lv_sipush (v := 365) hx hb dX2_dayNumber_37 (by decide) ?_
  refine lv_imul hx hb dX2_dayNumber_40 ?_
  refine lv_iload_n hx hb dX2_dayNumber_41 rfl (lv_at hl 0 rfl) ?_
  refine lv_iadd hx hb dX2_dayNumber_42 ?_
  refine lv_aload_n hx hb dX2_dayNumber_43 rfl (lv_at hl 1 rfl) ?_
  refine va_get (D := (dC, dI)) (ci := 2) (v := .int d) (C := RX2) (T := TX2) (N := 8) hx hb hts kin_2 hown hK hP 0 rfl rfl 2 (by decide) (hts _ (kcm kwm_34)) (fun _ h9 => h9) rfl dX2_dayNumber_44 ?_
  refine lv_iadd hx hb dX2_dayNumber_47 ?_
  refine lv_iconst (v := 1) hx hb dX2_dayNumber_48 (by decide) ?_
  refine lv_isub hx hb dX2_dayNumber_49 ?_
  refine lv_istore_n (lv' := [(2, .int ((((y * 365) + ((((y + 3) / 4) - ((y + 99) / 100)) + ((y + 399) / 400))) + d) - 1)), (1, .int ((((y + 3) / 4) - ((y + 99) / 100)) + ((y + 399) / 400))), (0, .ref h)]) hx hb dX2_dayNumber_50 rfl hl (by decide) rfl (fun ls hl => ?_)
  refine lv_aload_n hx hb dX2_dayNumber_51 rfl (lv_at hl 2 rfl) ?_
  refine va_get (D := (dC, dI)) (ci := 2) (v := .int mo) (C := RX2) (T := TX2) (N := 8) hx hb hts kin_2 hown hK hP 0 rfl rfl 1 (by decide) (hts _ (kcm kwm_35)) (fun _ h9 => h9) rfl dX2_dayNumber_52 ?_
  refine lv_iconst (v := 1) hx hb dX2_dayNumber_55 (by decide) ?_
  refine lv_icmp_lt (tgt := 81) hx hb dX2_dayNumber_56 (by decide) (fun c_56 => ?_) (fun c_56 => ?_)
  · refine lv_aload_n hx hb dX2_dayNumber_81 rfl (lv_at hl 2 rfl) ?_
    refine va_get (D := (dC, dI)) (ci := 2) (v := .int mo) (C := RX2) (T := TX2) (N := 8) hx hb hts kin_2 hown hK hP 0 rfl rfl 1 (by decide) (hts _ (kcm kwm_35)) (fun _ h9 => h9) rfl dX2_dayNumber_82 ?_
    refine lv_iconst (v := 2) hx hb dX2_dayNumber_85 (by decide) ?_
    refine lv_icmp_le (tgt := 105) hx hb dX2_dayNumber_86 (by decide) (fun c_86 => ?_) (fun c_86 => ?_)
    · refine lv_iload_n hx hb dX2_dayNumber_105 rfl (lv_at hl 0 rfl) ?_
      have hF9 : dayNo y mo d = (((y * 365) + ((((y + 3) / 4) - ((y + 99) / 100)) + ((y + 399) / 400))) + d) - 1 := by
        first | (simp only [dayNo, if_pos c_56, if_pos c_86]; done) | rfl
      have hv9 : (((y * 365) + ((((y + 3) / 4) - ((y + 99) / 100)) + ((y + 399) / 400))) + d) - 1 = dayNo y mo d := by
        try rw [hF9]
        try rfl
      exact kc_Siret hx hb hr hlocks hv9 dX2_dayNumber_106
    · refine lv_aload_n hx hb dX2_dayNumber_89 rfl (lv_at hl 2 rfl) ?_
      refine va_get (D := (dC, dI)) (ci := 2) (v := .int y) (C := RX2) (T := TX2) (N := 8) hx hb hts kin_2 hown hK hP 0 rfl rfl 0 (by decide) (hts _ (kcm kwm_36)) (fun _ h9 => h9) rfl dX2_dayNumber_90 ?_
      have hPc := hP.sub (ws' := []) [] rfl
      have hDc := hD.sub (ws' := []) [] (by decide) rfl
      have hKc := hK.sub (tys' := []) [] rfl
      have hFc := va_free (wc := []) hD hS hA [] rfl
      refine kc_callSi (val := bI (leapY y)) (va_runSN (As := [.int y]) (rest := []) ⟨hx, hb, hml, hown, hts⟩ (c_CT_isLeapYear l dC dI st s.heap.size y ) ⟨va_cnB 1 hts (kwC kwm_11) rfl rfl rfl (kg_nest hG (List.mem_of_getElem? (i := 3) (a := Cond.methodLinkNest RX2 55 yX4_isLeapYear "ClockTexts") rfl)) (hts _ (kcm kwm_14)) (by decide +kernel) ⟨Nat.le_of_ble_eq_true rfl, Nat.le_of_ble_eq_true rfl⟩, hts _ (kcm kwm_13), trivial⟩ ⟨kc_blind, kc_pre hG hS hFc hKc hPc hDc⟩ rfl rfl hl.1 rfl (lv_room (Nat.le_of_ble_eq_true rfl)) dX2_dayNumber_93 ⟨Nat.le_of_ble_eq_true rfl, Nat.le_of_ble_eq_true rfl⟩) ?_
      refine lv_if_eq (tgt := 105) hx hb dX2_dayNumber_96 (by decide) (fun c_96 => ?_) (fun c_96 => ?_)
      · refine lv_iload_n hx hb dX2_dayNumber_105 rfl (lv_at hl 0 rfl) ?_
        have hF9 : dayNo y mo d = (((y * 365) + ((((y + 3) / 4) - ((y + 99) / 100)) + ((y + 399) / 400))) + d) - 1 := by
          first | (simp only [dayNo, if_pos c_56, if_neg c_86, if_pos c_96]; done) | rfl
        have hv9 : (((y * 365) + ((((y + 3) / 4) - ((y + 99) / 100)) + ((y + 399) / 400))) + d) - 1 = dayNo y mo d := by
          try rw [hF9]
          try rfl
        exact kc_Siret hx hb hr hlocks hv9 dX2_dayNumber_106
      · refine lv_iload_n hx hb dX2_dayNumber_99 rfl (lv_at hl 0 rfl) ?_
        refine lv_iconst (v := 1) hx hb dX2_dayNumber_100 (by decide) ?_
        refine lv_iadd hx hb dX2_dayNumber_101 ?_
        refine lv_goto (tgt := 106) hx hb dX2_dayNumber_102 (by decide) ?_
        have hF9 : dayNo y mo d = ((((y * 365) + ((((y + 3) / 4) - ((y + 99) / 100)) + ((y + 399) / 400))) + d) - 1) + 1 := by
          first | (simp only [dayNo, if_pos c_56, if_neg c_86, if_neg c_96]; done) | rfl
        have hv9 : ((((y * 365) + ((((y + 3) / 4) - ((y + 99) / 100)) + ((y + 399) / 400))) + d) - 1) + 1 = dayNo y mo d := by
          try rw [hF9]
          try rfl
        exact kc_Siret hx hb hr hlocks hv9 dX2_dayNumber_106
  · refine lv_aload_n hx hb dX2_dayNumber_59 rfl (lv_at hl 2 rfl) ?_
    refine va_get (D := (dC, dI)) (ci := 2) (v := .int mo) (C := RX2) (T := TX2) (N := 8) hx hb hts kin_2 hown hK hP 0 rfl rfl 1 (by decide) (hts _ (kcm kwm_35)) (fun _ h9 => h9) rfl dX2_dayNumber_60 ?_
    refine lv_bipush (v := 12) hx hb dX2_dayNumber_63 (by decide) ?_
    refine lv_icmp_gt (tgt := 81) hx hb dX2_dayNumber_65 (by decide) (fun c_65 => ?_) (fun c_65 => ?_)
    · refine lv_aload_n hx hb dX2_dayNumber_81 rfl (lv_at hl 2 rfl) ?_
      refine va_get (D := (dC, dI)) (ci := 2) (v := .int mo) (C := RX2) (T := TX2) (N := 8) hx hb hts kin_2 hown hK hP 0 rfl rfl 1 (by decide) (hts _ (kcm kwm_35)) (fun _ h9 => h9) rfl dX2_dayNumber_82 ?_
      refine lv_iconst (v := 2) hx hb dX2_dayNumber_85 (by decide) ?_
      refine lv_icmp_le (tgt := 105) hx hb dX2_dayNumber_86 (by decide) (fun c_86 => ?_) (fun c_86 => ?_)
      · refine lv_iload_n hx hb dX2_dayNumber_105 rfl (lv_at hl 0 rfl) ?_
        have hF9 : dayNo y mo d = (((y * 365) + ((((y + 3) / 4) - ((y + 99) / 100)) + ((y + 399) / 400))) + d) - 1 := by
          first | (simp only [dayNo, if_neg c_56, if_pos c_65, if_pos c_86]; done) | rfl
        have hv9 : (((y * 365) + ((((y + 3) / 4) - ((y + 99) / 100)) + ((y + 399) / 400))) + d) - 1 = dayNo y mo d := by
          try rw [hF9]
          try rfl
        exact kc_Siret hx hb hr hlocks hv9 dX2_dayNumber_106
      · refine lv_aload_n hx hb dX2_dayNumber_89 rfl (lv_at hl 2 rfl) ?_
        refine va_get (D := (dC, dI)) (ci := 2) (v := .int y) (C := RX2) (T := TX2) (N := 8) hx hb hts kin_2 hown hK hP 0 rfl rfl 0 (by decide) (hts _ (kcm kwm_36)) (fun _ h9 => h9) rfl dX2_dayNumber_90 ?_
        have hPc := hP.sub (ws' := []) [] rfl
        have hDc := hD.sub (ws' := []) [] (by decide) rfl
        have hKc := hK.sub (tys' := []) [] rfl
        have hFc := va_free (wc := []) hD hS hA [] rfl
        refine kc_callSi (val := bI (leapY y)) (va_runSN (As := [.int y]) (rest := []) ⟨hx, hb, hml, hown, hts⟩ (c_CT_isLeapYear l dC dI st s.heap.size y ) ⟨va_cnB 1 hts (kwC kwm_11) rfl rfl rfl (kg_nest hG (List.mem_of_getElem? (i := 3) (a := Cond.methodLinkNest RX2 55 yX4_isLeapYear "ClockTexts") rfl)) (hts _ (kcm kwm_14)) (by decide +kernel) ⟨Nat.le_of_ble_eq_true rfl, Nat.le_of_ble_eq_true rfl⟩, hts _ (kcm kwm_13), trivial⟩ ⟨kc_blind, kc_pre hG hS hFc hKc hPc hDc⟩ rfl rfl hl.1 rfl (lv_room (Nat.le_of_ble_eq_true rfl)) dX2_dayNumber_93 ⟨Nat.le_of_ble_eq_true rfl, Nat.le_of_ble_eq_true rfl⟩) ?_
        refine lv_if_eq (tgt := 105) hx hb dX2_dayNumber_96 (by decide) (fun c_96 => ?_) (fun c_96 => ?_)
        · refine lv_iload_n hx hb dX2_dayNumber_105 rfl (lv_at hl 0 rfl) ?_
          have hF9 : dayNo y mo d = (((y * 365) + ((((y + 3) / 4) - ((y + 99) / 100)) + ((y + 399) / 400))) + d) - 1 := by
            first | (simp only [dayNo, if_neg c_56, if_pos c_65, if_neg c_86, if_pos c_96]; done) | rfl
          have hv9 : (((y * 365) + ((((y + 3) / 4) - ((y + 99) / 100)) + ((y + 399) / 400))) + d) - 1 = dayNo y mo d := by
            try rw [hF9]
            try rfl
          exact kc_Siret hx hb hr hlocks hv9 dX2_dayNumber_106
        · refine lv_iload_n hx hb dX2_dayNumber_99 rfl (lv_at hl 0 rfl) ?_
          refine lv_iconst (v := 1) hx hb dX2_dayNumber_100 (by decide) ?_
          refine lv_iadd hx hb dX2_dayNumber_101 ?_
          refine lv_goto (tgt := 106) hx hb dX2_dayNumber_102 (by decide) ?_
          have hF9 : dayNo y mo d = ((((y * 365) + ((((y + 3) / 4) - ((y + 99) / 100)) + ((y + 399) / 400))) + d) - 1) + 1 := by
            first | (simp only [dayNo, if_neg c_56, if_pos c_65, if_neg c_86, if_neg c_96]; done) | rfl
          have hv9 : ((((y * 365) + ((((y + 3) / 4) - ((y + 99) / 100)) + ((y + 399) / 400))) + d) - 1) + 1 = dayNo y mo d := by
            try rw [hF9]
            try rfl
          exact kc_Siret hx hb hr hlocks hv9 dX2_dayNumber_106
    · refine lv_iload_n hx hb dX2_dayNumber_68 rfl (lv_at hl 0 rfl) ?_
      refine va_getsN hx hb (kg_Z hG) hS hown (kg_use hG (List.mem_of_getElem? (i := 2) (a := Cond.fieldLinkNest RX2 51 "ClockTexts" "DAYS_BEFORE_MONTH" "[I" "ClockTexts") rfl)) (fun _ h9 => h9) dX2_dayNumber_69 ?_
      refine lv_aload_n hx hb dX2_dayNumber_72 rfl (lv_at hl 2 rfl) ?_
      refine va_get (D := (dC, dI)) (ci := 2) (v := .int mo) (C := RX2) (T := TX2) (N := 8) hx hb hts kin_2 hown hK hP 0 rfl rfl 1 (by decide) (hts _ (kcm kwm_35)) (fun _ h9 => h9) rfl dX2_dayNumber_73 ?_
      refine lv_iconst (v := 1) hx hb dX2_dayNumber_76 (by decide) ?_
      refine lv_isub hx hb dX2_dayNumber_77 ?_
      refine va_ti (v := .int (dbm (mo - 1).toNatClampNeg)) hx hb (kg_T hG) hS (kb_mo' c_56 c_65) rfl dX2_dayNumber_78 ?_
      refine lv_iadd hx hb dX2_dayNumber_79 ?_
      refine lv_istore_n (lv' := [(2, .int (((((y * 365) + ((((y + 3) / 4) - ((y + 99) / 100)) + ((y + 399) / 400))) + d) - 1) + (dbm (mo - 1).toNatClampNeg))), (1, .int ((((y + 3) / 4) - ((y + 99) / 100)) + ((y + 399) / 400))), (0, .ref h)]) hx hb dX2_dayNumber_80 rfl hl (by decide) rfl (fun ls hl => ?_)
      refine lv_aload_n hx hb dX2_dayNumber_81 rfl (lv_at hl 2 rfl) ?_
      refine va_get (D := (dC, dI)) (ci := 2) (v := .int mo) (C := RX2) (T := TX2) (N := 8) hx hb hts kin_2 hown hK hP 0 rfl rfl 1 (by decide) (hts _ (kcm kwm_35)) (fun _ h9 => h9) rfl dX2_dayNumber_82 ?_
      refine lv_iconst (v := 2) hx hb dX2_dayNumber_85 (by decide) ?_
      refine lv_icmp_le (tgt := 105) hx hb dX2_dayNumber_86 (by decide) (fun c_86 => ?_) (fun c_86 => ?_)
      · refine lv_iload_n hx hb dX2_dayNumber_105 rfl (lv_at hl 0 rfl) ?_
        have hF9 : dayNo y mo d = ((((y * 365) + ((((y + 3) / 4) - ((y + 99) / 100)) + ((y + 399) / 400))) + d) - 1) + (dbm (mo - 1).toNatClampNeg) := by
          first | (simp only [dayNo, if_neg c_56, if_neg c_65, if_pos c_86]; done) | rfl
        have hv9 : ((((y * 365) + ((((y + 3) / 4) - ((y + 99) / 100)) + ((y + 399) / 400))) + d) - 1) + (dbm (mo - 1).toNatClampNeg) = dayNo y mo d := by
          try rw [hF9]
          try rfl
        exact kc_Siret hx hb hr hlocks hv9 dX2_dayNumber_106
      · refine lv_aload_n hx hb dX2_dayNumber_89 rfl (lv_at hl 2 rfl) ?_
        refine va_get (D := (dC, dI)) (ci := 2) (v := .int y) (C := RX2) (T := TX2) (N := 8) hx hb hts kin_2 hown hK hP 0 rfl rfl 0 (by decide) (hts _ (kcm kwm_36)) (fun _ h9 => h9) rfl dX2_dayNumber_90 ?_
        have hPc := hP.sub (ws' := []) [] rfl
        have hDc := hD.sub (ws' := []) [] (by decide) rfl
        have hKc := hK.sub (tys' := []) [] rfl
        have hFc := va_free (wc := []) hD hS hA [] rfl
        refine kc_callSi (val := bI (leapY y)) (va_runSN (As := [.int y]) (rest := []) ⟨hx, hb, hml, hown, hts⟩ (c_CT_isLeapYear l dC dI st s.heap.size y ) ⟨va_cnB 1 hts (kwC kwm_11) rfl rfl rfl (kg_nest hG (List.mem_of_getElem? (i := 3) (a := Cond.methodLinkNest RX2 55 yX4_isLeapYear "ClockTexts") rfl)) (hts _ (kcm kwm_14)) (by decide +kernel) ⟨Nat.le_of_ble_eq_true rfl, Nat.le_of_ble_eq_true rfl⟩, hts _ (kcm kwm_13), trivial⟩ ⟨kc_blind, kc_pre hG hS hFc hKc hPc hDc⟩ rfl rfl hl.1 rfl (lv_room (Nat.le_of_ble_eq_true rfl)) dX2_dayNumber_93 ⟨Nat.le_of_ble_eq_true rfl, Nat.le_of_ble_eq_true rfl⟩) ?_
        refine lv_if_eq (tgt := 105) hx hb dX2_dayNumber_96 (by decide) (fun c_96 => ?_) (fun c_96 => ?_)
        · refine lv_iload_n hx hb dX2_dayNumber_105 rfl (lv_at hl 0 rfl) ?_
          have hF9 : dayNo y mo d = ((((y * 365) + ((((y + 3) / 4) - ((y + 99) / 100)) + ((y + 399) / 400))) + d) - 1) + (dbm (mo - 1).toNatClampNeg) := by
            first | (simp only [dayNo, if_neg c_56, if_neg c_65, if_neg c_86, if_pos c_96]; done) | rfl
          have hv9 : ((((y * 365) + ((((y + 3) / 4) - ((y + 99) / 100)) + ((y + 399) / 400))) + d) - 1) + (dbm (mo - 1).toNatClampNeg) = dayNo y mo d := by
            try rw [hF9]
            try rfl
          exact kc_Siret hx hb hr hlocks hv9 dX2_dayNumber_106
        · refine lv_iload_n hx hb dX2_dayNumber_99 rfl (lv_at hl 0 rfl) ?_
          refine lv_iconst (v := 1) hx hb dX2_dayNumber_100 (by decide) ?_
          refine lv_iadd hx hb dX2_dayNumber_101 ?_
          refine lv_goto (tgt := 106) hx hb dX2_dayNumber_102 (by decide) ?_
          have hF9 : dayNo y mo d = (((((y * 365) + ((((y + 3) / 4) - ((y + 99) / 100)) + ((y + 399) / 400))) + d) - 1) + (dbm (mo - 1).toNatClampNeg)) + 1 := by
            first | (simp only [dayNo, if_neg c_56, if_neg c_65, if_neg c_86, if_neg c_96]; done) | rfl
          have hv9 : (((((y * 365) + ((((y + 3) / 4) - ((y + 99) / 100)) + ((y + 399) / 400))) + d) - 1) + (dbm (mo - 1).toNatClampNeg)) + 1 = dayNo y mo d := by
            try rw [hF9]
            try rfl
          exact kc_Siret hx hb hr hlocks hv9 dX2_dayNumber_106
def wSecs (y mo d hh mi ss : Int32) : Int64 :=
  ((((dayNo y mo d).toInt64 * 86400) + (hh * 3600).toInt64) + (mi * 60).toInt64) + ss.toInt64
set_option maxHeartbeats 4000000 in
set_option maxRecDepth 100000 in
theorem c_Mo_wholeSeconds (l : Launch) (dC : Nat → ClassId) (dI : Nat → Nat → Nat) (st sz : Nat) (h : Nat) (y : Int32) (mo : Int32) (d : Int32) (hh : Int32) (mi : Int32) (ss : Int32) (hp : Nat) (k : Nat)  : Met l yX2_wholeSeconds wsX2_wholeSeconds ({ frames := 2, cells := 0, slots := 0, locals := 42 }) (kc_Pc (dC, dI) kcl st sz [.ref h] [(h, .inr (2, [.int y, .int mo, .int d, .int hh, .int mi, .int ss, .ref hp, .int (nI k)]))] []) (vp_Sl (fun r => r = wSecs y mo d hh mi ss)) 0 0 (fun _ => False) := by
  refine kc_ofS (cc := cX2_wholeSeconds) (maxL := 1) (ret := (some .long)) (by decide) rfl (Nat.le_of_ble_eq_true rfl) ?_
  intro p e s m below meth c A ls Cx hA hG hK hP hD hS hl
  obtain ⟨hx, hb, hr, hml, hown, hts, hlocks, hnm⟩ := id Cx
  have hl : lv_has ls 1 [(0, .ref h)] := hl
  refine lv_aload_n hx hb dX2_wholeSeconds_0 rfl (lv_at hl 0 rfl) ?_
  have hPc := hP.sub (ws' := [(h, .inr (2, [.int y, .int mo, .int d, .int hh, .int mi, .int ss, .ref hp, .int (nI k)]))]) [0] rfl
  have hDc := hD.sub (ws' := [(h, .inr (2, [.int y, .int mo, .int d, .int hh, .int mi, .int ss, .ref hp, .int (nI k)]))]) [0] (by decide) rfl
  have hKc := hK.sub (tys' := []) [] rfl
  have hFc := va_free (wc := [(h, .inr (2, [.int y, .int mo, .int d, .int hh, .int mi, .int ss, .ref hp, .int (nI k)]))]) hD hS hA [0] rfl
  refine kc_callSi (val := dayNo y mo d) (va_runV (As := []) (rest := []) ⟨hx, hb, hml, hown, hts⟩ (c_Mo_dayNumber l dC dI st s.heap.size h y mo d hh mi ss hp k ) (cwV 0 hts (kwV kwm_27 kwm_28 kwm_29 kwm_21 kwm_26) rfl rfl rfl (by decide +kernel) ⟨Nat.le_of_ble_eq_true rfl, Nat.le_of_ble_eq_true rfl⟩) ⟨kc_blind, va_recv hKc hPc (ci := 2) (q0 := 0) rfl rfl, kc_pre hG hS hFc hKc hPc hDc⟩ rfl rfl hl.1 rfl (lv_room (Nat.le_of_ble_eq_true rfl)) dX2_wholeSeconds_1 ⟨Nat.le_of_ble_eq_true rfl, Nat.le_of_ble_eq_true rfl⟩) ?_
  refine lv_i2l (v := (dayNo y mo d).toInt64) hx hb dX2_wholeSeconds_4 rfl ?_
  refine lv_ldc2 (own := RX2) (v := 86400) hx hb hown (hts _ (kcm kwm_39)) dX2_wholeSeconds_5 ?_
  refine lv_lmul hx hb dX2_wholeSeconds_8 ?_
  refine lv_aload_n hx hb dX2_wholeSeconds_9 rfl (lv_at hl 0 rfl) ?_
  refine va_get (D := (dC, dI)) (ci := 2) (v := .int hh) (C := RX2) (T := TX2) (N := 8) hx hb hts kin_2 hown hK hP 0 rfl rfl 3 (by decide) (hts _ (kcm kwm_38)) (fun _ h9 => h9) rfl dX2_wholeSeconds_10 ?_
  refine lv_sipush (v := 3600) hx hb dX2_wholeSeconds_13 (by decide) ?_
  refine lv_imul hx hb dX2_wholeSeconds_16 ?_
  refine lv_i2l (v := (hh * 3600).toInt64) hx hb dX2_wholeSeconds_17 rfl ?_
  refine lv_ladd hx hb dX2_wholeSeconds_18 ?_
  refine lv_aload_n hx hb dX2_wholeSeconds_19 rfl (lv_at hl 0 rfl) ?_
  refine va_get (D := (dC, dI)) (ci := 2) (v := .int mi) (C := RX2) (T := TX2) (N := 8) hx hb hts kin_2 hown hK hP 0 rfl rfl 4 (by decide) (hts _ (kcm kwm_30)) (fun _ h9 => h9) rfl dX2_wholeSeconds_20 ?_
  refine lv_bipush (v := 60) hx hb dX2_wholeSeconds_23 (by decide) ?_
  refine lv_imul hx hb dX2_wholeSeconds_25 ?_
  refine lv_i2l (v := (mi * 60).toInt64) hx hb dX2_wholeSeconds_26 rfl ?_
  refine lv_ladd hx hb dX2_wholeSeconds_27 ?_
  refine lv_aload_n hx hb dX2_wholeSeconds_28 rfl (lv_at hl 0 rfl) ?_
  refine va_get (D := (dC, dI)) (ci := 2) (v := .int ss) (C := RX2) (T := TX2) (N := 8) hx hb hts kin_2 hown hK hP 0 rfl rfl 5 (by decide) (hts _ (kcm kwm_31)) (fun _ h9 => h9) rfl dX2_wholeSeconds_29 ?_
  refine lv_i2l (v := ss.toInt64) hx hb dX2_wholeSeconds_32 rfl ?_
  refine lv_ladd hx hb dX2_wholeSeconds_33 ?_
  have hF9 : wSecs y mo d hh mi ss = ((((dayNo y mo d).toInt64 * 86400) + (hh * 3600).toInt64) + (mi * 60).toInt64) + ss.toInt64 := by
    first | (simp only [wSecs]; done) | rfl
  have hv9 : ((((dayNo y mo d).toInt64 * 86400) + (hh * 3600).toInt64) + (mi * 60).toInt64) + ss.toInt64 = wSecs y mo d hh mi ss := by
    try rw [hF9]
    try rfl
  exact kc_Slret hx hb hr hlocks hv9 dX2_wholeSeconds_34
def dayWk (y mo d : Int32) : Int32 :=
  ((dayNo y mo d) + 5) - ((dayNo y mo d) + 5) / 7 * 7
set_option maxHeartbeats 4000000 in
set_option maxRecDepth 100000 in
theorem c_Mo_dayOfWeek (l : Launch) (dC : Nat → ClassId) (dI : Nat → Nat → Nat) (st sz : Nat) (h : Nat) (y : Int32) (mo : Int32) (d : Int32) (hh : Int32) (mi : Int32) (ss : Int32) (hp : Nat) (k : Nat)  : Met l yX2_dayOfWeek wsX2_dayOfWeek ({ frames := 2, cells := 0, slots := 0, locals := 42 }) (kc_Pc (dC, dI) kcl st sz [.ref h] [(h, .inr (2, [.int y, .int mo, .int d, .int hh, .int mi, .int ss, .ref hp, .int (nI k)]))] []) (vp_Si (fun r => r = dayWk y mo d)) 0 0 (fun _ => False) := by
  refine kc_ofS (cc := cX2_dayOfWeek) (maxL := 1) (ret := (some .int)) (by decide) rfl (Nat.le_of_ble_eq_true rfl) ?_
  intro p e s m below meth c A ls Cx hA hG hK hP hD hS hl
  obtain ⟨hx, hb, hr, hml, hown, hts, hlocks, hnm⟩ := id Cx
  have hl : lv_has ls 1 [(0, .ref h)] := hl
  refine lv_aload_n hx hb dX2_dayOfWeek_0 rfl (lv_at hl 0 rfl) ?_
  have hPc := hP.sub (ws' := [(h, .inr (2, [.int y, .int mo, .int d, .int hh, .int mi, .int ss, .ref hp, .int (nI k)]))]) [0] rfl
  have hDc := hD.sub (ws' := [(h, .inr (2, [.int y, .int mo, .int d, .int hh, .int mi, .int ss, .ref hp, .int (nI k)]))]) [0] (by decide) rfl
  have hKc := hK.sub (tys' := []) [] rfl
  have hFc := va_free (wc := [(h, .inr (2, [.int y, .int mo, .int d, .int hh, .int mi, .int ss, .ref hp, .int (nI k)]))]) hD hS hA [0] rfl
  refine kc_callSi (val := dayNo y mo d) (va_runV (As := []) (rest := []) ⟨hx, hb, hml, hown, hts⟩ (c_Mo_dayNumber l dC dI st s.heap.size h y mo d hh mi ss hp k ) (cwV 0 hts (kwV kwm_27 kwm_28 kwm_29 kwm_21 kwm_26) rfl rfl rfl (by decide +kernel) ⟨Nat.le_of_ble_eq_true rfl, Nat.le_of_ble_eq_true rfl⟩) ⟨kc_blind, va_recv hKc hPc (ci := 2) (q0 := 0) rfl rfl, kc_pre hG hS hFc hKc hPc hDc⟩ rfl rfl hl.1 rfl (lv_room (Nat.le_of_ble_eq_true rfl)) dX2_dayOfWeek_1 ⟨Nat.le_of_ble_eq_true rfl, Nat.le_of_ble_eq_true rfl⟩) ?_
  refine lv_iconst (v := 5) hx hb dX2_dayOfWeek_4 (by decide) ?_
  refine lv_iadd hx hb dX2_dayOfWeek_5 ?_
  refine lv_bipush (v := 7) hx hb dX2_dayOfWeek_6 (by decide) ?_
  refine lv_irem hx hb dX2_dayOfWeek_8 (by decide) ?_
  have hF9 : dayWk y mo d = ((dayNo y mo d) + 5) - ((dayNo y mo d) + 5) / 7 * 7 := by
    first | (simp only [dayWk]; done) | rfl
  have hv9 : ((dayNo y mo d) + 5) - ((dayNo y mo d) + 5) / 7 * 7 = dayWk y mo d := by
    try rw [hF9]
    try rfl
  exact kc_Siret hx hb hr hlocks hv9 dX2_dayOfWeek_9
