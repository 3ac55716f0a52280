set_option maxHeartbeats 4000000 in
set_option maxRecDepth 100000 in
theorem m_thrown (l : Launch) (dC : Nat → ClassId) (dI : Nat → Nat → Nat) (st sz : Nat) (q : Nat) (th : Int32) (tx : Nat) (mz : Nat) (fl : Int32) (it : Bool) (al : Int64) (pt : Nat) (dg : Nat) (ot : Nat) (wr : Nat) (kz : Nat) (ka : Nat) (kd : Nat) (kp : Nat) (ma : Nat) (wg : Bool)  : Met l yX5_thrown wsX5_thrown ({ frames := 0, cells := 0, slots := 0, locals := 0 }) (kc_Pc (dC, dI) kcl st sz [.ref q] [(q, .inr (5, [.int th, .ref tx, .int (nI mz), .int fl, .int (bI it), .long al, .ref pt, .int (nI dg), .ref ot, .int (nI wr), .int (nI kz), .ref ka, .ref kd, .ref kp, .int (nI ma), .int (bI wg)]))] []) (vp_Si (fun r => r = th)) 0 0 (fun _ => False) := by
  refine kc_ofS (cc := cX5_thrown) (maxL := 1) (ret := (some .int)) (by decide) rfl (Nat.le_of_ble_eq_true rfl) ?_
  intro p e s m below meth c A ls Cx hA hG hK hP hD hS hl
  obtain ⟨hx, hb, hr, hml, hown, hts, hlocks, hnm⟩ := id Cx
  have hl : lv_has ls 1 [(0, .ref q)] := hl
  refine lv_aload_n hx hb dX5_thrown_0 rfl (lv_at hl 0 rfl) ?_
  refine va_get (D := (dC, dI)) (ci := 5) (v := .int th) (C := RX5) (T := TX5) (N := 16) hx hb hts kin_5 hown hK hP 0 rfl rfl 0 (by decide) (hts _ (kcm kwm_204)) (fun _ h9 => h9) rfl dX5_thrown_1 ?_
  have hv9 : th = th := by
    skip
    try rfl
  exact kc_Siret hx hb hr hlocks hv9 dX5_thrown_4
def mAdd (X : Nat → Int32) (mz : Nat) (v : Int32) : (Nat → Int32) × Nat :=
  (upd (upd (upd (upd X mz ((v >>> ((24 : Int32) &&& 31)) &&& 255)) (mz + 1) ((v >>> ((16 : Int32) &&& 31)) &&& 255)) ((mz + 1) + 1) ((v >>> ((8 : Int32) &&& 31)) &&& 255)) (((mz + 1) + 1) + 1) ((v >>> ((0 : Int32) &&& 31)) &&& 255), ((((mz + 1) + 1) + 1) + 1))
set_option maxHeartbeats 4000000 in
set_option maxRecDepth 100000 in
theorem m_add (l : Launch) (dC : Nat → ClassId) (dI : Nat → Nat → Nat) (st sz : Nat) (q : Nat) (th : Int32) (tx : Nat) (mz : Nat) (fl : Int32) (it : Bool) (al : Int64) (pt : Nat) (dg : Nat) (ot : Nat) (wr : Nat) (kz : Nat) (ka : Nat) (kd : Nat) (kp : Nat) (ma : Nat) (wg : Bool) (c1 : ClassId) (X : Nat → Int32) (v : Int32) (hz : mz ≤ 252) : Met l yX5_add wsX5_add ({ frames := 0, cells := 0, slots := 0, locals := 0 }) (kc_Pc (dC, dI) kcl st sz [.ref q, .int v] [(q, .inr (5, [.int th, .ref tx, .int (nI mz), .int fl, .int (bI it), .long al, .ref pt, .int (nI dg), .ref ot, .int (nI wr), .int (nI kz), .ref ka, .ref kd, .ref kp, .int (nI ma), .int (bI wg)])), (tx, .inl (c1, 256, .inl X))] [(c1, .int)]) (kc_Qv (dC, dI) kcl [(q, .inr (5, [.int th, .ref tx, .int (nI (mAdd X mz v).2), .int fl, .int (bI it), .long al, .ref pt, .int (nI dg), .ref ot, .int (nI wr), .int (nI kz), .ref ka, .ref kd, .ref kp, .int (nI ma), .int (bI wg)])), (tx, .inl (c1, 256, .inl (mAdd X mz v).1))] (va_A [(q, .inr (5, [.int th, .ref tx, .int (nI mz), .int fl, .int (bI it), .long al, .ref pt, .int (nI dg), .ref ot, .int (nI wr), .int (nI kz), .ref ka, .ref kd, .ref kp, .int (nI ma), .int (bI wg)])), (tx, .inl (c1, 256, .inl X))] sz)) 0 0 (va_A [(q, .inr (5, [.int th, .ref tx, .int (nI mz), .int fl, .int (bI it), .long al, .ref pt, .int (nI dg), .ref ot, .int (nI wr), .int (nI kz), .ref ka, .ref kd, .ref kp, .int (nI ma), .int (bI wg)])), (tx, .inl (c1, 256, .inl X))] sz) := by
  refine kc_ofW (Qc := fun A => (kc_Qv (dC, dI) kcl [(q, .inr (5, [.int th, .ref tx, .int (nI (mAdd X mz v).2), .int fl, .int (bI it), .long al, .ref pt, .int (nI dg), .ref ot, .int (nI wr), .int (nI kz), .ref ka, .ref kd, .ref kp, .int (nI ma), .int (bI wg)])), (tx, .inl (c1, 256, .inl (mAdd X mz v).1))] A)) (cc := cX5_add) (maxL := 3) (ret := none) (by decide) rfl (Nat.le_of_ble_eq_true rfl) ?_
  intro p e s m below meth c A ls Cx hA hG hK hP hD hS hl
  obtain ⟨hx, hb, hr, hml, hown, hts, hlocks, hnm⟩ := id Cx
  have hl : lv_has ls 3 [(0, .ref q), (1, .int v)] := hl
  refine lv_bipush (v := 24) hx hb dX5_add_0 (by decide) ?_
  refine lv_istore_n (lv' := [(2, .int 24), (0, .ref q), (1, .int v)]) hx hb dX5_add_2 rfl hl (by decide) rfl (fun ls hl => ?_)
  refine lv_iload_n hx hb dX5_add_3 rfl (lv_at hl 0 rfl) ?_
  refine lv_if_lt (tgt := 39) hx hb dX5_add_4 (by decide) (fun c_4 => ?_) (fun c_4 => ?_)
  · exact absurd c_4 (by decide)
  · refine lv_aload_n hx hb dX5_add_7 rfl (lv_at hl 1 rfl) ?_
    refine va_get (D := (dC, dI)) (ci := 5) (v := .ref tx) (C := RX5) (T := TX5) (N := 16) hx hb hts kin_5 hown hK hP 0 rfl rfl 1 (by decide) (hts _ (kcm kwm_205)) (fun _ h9 => h9) rfl dX5_add_8 ?_
    refine lv_aload_n hx hb dX5_add_11 rfl (lv_at hl 1 rfl) ?_
    refine va_get (D := (dC, dI)) (ci := 5) (v := .int (nI mz)) (C := RX5) (T := TX5) (N := 16) hx hb hts kin_5 hown hK hP 0 rfl rfl 2 (by decide) (hts _ (kcm kwm_206)) (fun _ h9 => h9) rfl dX5_add_12 ?_
    refine lv_iload_n hx hb dX5_add_15 rfl (lv_at hl 2 rfl) ?_
    refine lv_iload_n hx hb dX5_add_16 rfl (lv_at hl 0 rfl) ?_
    refine lv_ishr hx hb dX5_add_17 ?_
    refine lv_sipush (v := 255) hx hb dX5_add_18 (by decide) ?_
    refine lv_iand hx hb dX5_add_21 ?_
    refine va_iast hx hb hK hP hD hS 1 0 rfl rfl (vp_in_nI (by omega) (by decide)) dX5_add_22 (fun H locs hP hD hS => ?_)
    rw [show (nI mz).toNatClampNeg = mz from nI_clamp (by omega)] at hP hD
    have hP : va_P (dC, dI) kcl [(q, .inr (5, [.int th, .ref tx, .int (nI mz), .int fl, .int (bI it), .long al, .ref pt, .int (nI dg), .ref ot, .int (nI wr), .int (nI kz), .ref ka, .ref kd, .ref kp, .int (nI ma), .int (bI wg)])), (tx, .inl (c1, 256, .inl (upd X mz ((v >>> ((24 : Int32) &&& 31)) &&& 255))))] H := hP
    have hD : va_D A [(q, .inr (5, [.int th, .ref tx, .int (nI mz), .int fl, .int (bI it), .long al, .ref pt, .int (nI dg), .ref ot, .int (nI wr), .int (nI kz), .ref ka, .ref kd, .ref kp, .int (nI ma), .int (bI wg)])), (tx, .inl (c1, 256, .inl (upd X mz ((v >>> ((24 : Int32) &&& 31)) &&& 255))))] := hD
    refine lv_aload_n hx hb dX5_add_23 rfl (lv_at hl 1 rfl) ?_
    refine lv_dup hx hb dX5_add_24 rfl ?_
    refine va_get (D := (dC, dI)) (ci := 5) (v := .int (nI mz)) (C := RX5) (T := TX5) (N := 16) hx hb hts kin_5 hown hK hP 0 rfl rfl 2 (by decide) (hts _ (kcm kwm_206)) (fun _ h9 => h9) rfl dX5_add_25 ?_
    refine lv_iconst (v := 1) hx hb dX5_add_28 (by decide) ?_
    refine lv_iadd hx hb dX5_add_29 ?_
    rw [show (nI mz) + 1 = nI (mz + 1) from nI_add mz 1]
    refine va_put (D := (dC, dI)) (ci := 5) (v := .int (nI (mz + 1))) (ty := .int) (C := RX5) (T := TX5) (N := 16) hx hb hts kin_5 tyX5 tyX5_ok nmX5 hown hK hP hD hS 0 rfl rfl 2 (by decide) (hts _ (kcm kwm_206)) (fun _ h9 => h9) rfl (by decide +kernel) rfl rfl (Nat.le_of_ble_eq_true rfl) dX5_add_30 (fun H locs hP hD hS => ?_)
    have hP : va_P (dC, dI) kcl [(q, .inr (5, [.int th, .ref tx, .int (nI (mz + 1)), .int fl, .int (bI it), .long al, .ref pt, .int (nI dg), .ref ot, .int (nI wr), .int (nI kz), .ref ka, .ref kd, .ref kp, .int (nI ma), .int (bI wg)])), (tx, .inl (c1, 256, .inl (upd X mz ((v >>> ((24 : Int32) &&& 31)) &&& 255))))] H := hP
    have hD : va_D A [(q, .inr (5, [.int th, .ref tx, .int (nI (mz + 1)), .int fl, .int (bI it), .long al, .ref pt, .int (nI dg), .ref ot, .int (nI wr), .int (nI kz), .ref ka, .ref kd, .ref kp, .int (nI ma), .int (bI wg)])), (tx, .inl (c1, 256, .inl (upd X mz ((v >>> ((24 : Int32) &&& 31)) &&& 255))))] := hD
    refine lv_iinc (v := 16) (lv' := [(2, .int 16), (0, .ref q), (1, .int v)]) hx hb dX5_add_33 hl (k := 0) rfl (by decide) (by decide) rfl (fun ls hl => ?_)
    refine lv_goto (tgt := 3) hx hb dX5_add_36 (by decide) ?_
    refine lv_iload_n hx hb dX5_add_3 rfl (lv_at hl 0 rfl) ?_
    refine lv_if_lt (tgt := 39) hx hb dX5_add_4 (by decide) (fun c_4 => ?_) (fun c_4 => ?_)
    · exact absurd c_4 (by decide)
    · refine lv_aload_n hx hb dX5_add_7 rfl (lv_at hl 1 rfl) ?_
      refine va_get (D := (dC, dI)) (ci := 5) (v := .ref tx) (C := RX5) (T := TX5) (N := 16) hx hb hts kin_5 hown hK hP 0 rfl rfl 1 (by decide) (hts _ (kcm kwm_205)) (fun _ h9 => h9) rfl dX5_add_8 ?_
      refine lv_aload_n hx hb dX5_add_11 rfl (lv_at hl 1 rfl) ?_
      refine va_get (D := (dC, dI)) (ci := 5) (v := .int (nI (mz + 1))) (C := RX5) (T := TX5) (N := 16) hx hb hts kin_5 hown hK hP 0 rfl rfl 2 (by decide) (hts _ (kcm kwm_206)) (fun _ h9 => h9) rfl dX5_add_12 ?_
      refine lv_iload_n hx hb dX5_add_15 rfl (lv_at hl 2 rfl) ?_
      refine lv_iload_n hx hb dX5_add_16 rfl (lv_at hl 0 rfl) ?_
      refine lv_ishr hx hb dX5_add_17 ?_
      refine lv_sipush (v := 255) hx hb dX5_add_18 (by decide) ?_
      refine lv_iand hx hb dX5_add_21 ?_
      refine va_iast hx hb hK hP hD hS 1 0 rfl rfl (vp_in_nI (by omega) (by decide)) dX5_add_22 (fun H locs hP hD hS => ?_)
      rw [show (nI (mz + 1)).toNatClampNeg = (mz + 1) from nI_clamp (by omega)] at hP hD
      have hP : va_P (dC, dI) kcl [(q, .inr (5, [.int th, .ref tx, .int (nI (mz + 1)), .int fl, .int (bI it), .long al, .ref pt, .int (nI dg), .ref ot, .int (nI wr), .int (nI kz), .ref ka, .ref kd, .ref kp, .int (nI ma), .int (bI wg)])), (tx, .inl (c1, 256, .inl (upd (upd X mz ((v >>> ((24 : Int32) &&& 31)) &&& 255)) (mz + 1) ((v >>> ((16 : Int32) &&& 31)) &&& 255))))] H := hP
      have hD : va_D A [(q, .inr (5, [.int th, .ref tx, .int (nI (mz + 1)), .int fl, .int (bI it), .long al, .ref pt, .int (nI dg), .ref ot, .int (nI wr), .int (nI kz), .ref ka, .ref kd, .ref kp, .int (nI ma), .int (bI wg)])), (tx, .inl (c1, 256, .inl (upd (upd X mz ((v >>> ((24 : Int32) &&& 31)) &&& 255)) (mz + 1) ((v >>> ((16 : Int32) &&& 31)) &&& 255))))] := hD
      refine lv_aload_n hx hb dX5_add_23 rfl (lv_at hl 1 rfl) ?_
      refine lv_dup hx hb dX5_add_24 rfl ?_
      refine va_get (D := (dC, dI)) (ci := 5) (v := .int (nI (mz + 1))) (C := RX5) (T := TX5) (N := 16) hx hb hts kin_5 hown hK hP 0 rfl rfl 2 (by decide) (hts _ (kcm kwm_206)) (fun _ h9 => h9) rfl dX5_add_25 ?_
      refine lv_iconst (v := 1) hx hb dX5_add_28 (by decide) ?_
      refine lv_iadd hx hb dX5_add_29 ?_
      rw [show (nI (mz + 1)) + 1 = nI ((mz + 1) + 1) from nI_add (mz + 1) 1]
      refine va_put (D := (dC, dI)) (ci := 5) (v := .int (nI ((mz + 1) + 1))) (ty := .int) (C := RX5) (T := TX5) (N := 16) hx hb hts kin_5 tyX5 tyX5_ok nmX5 hown hK hP hD hS 0 rfl rfl 2 (by decide) (hts _ (kcm kwm_206)) (fun _ h9 => h9) rfl (by decide +kernel) rfl rfl (Nat.le_of_ble_eq_true rfl) dX5_add_30 (fun H locs hP hD hS => ?_)
      have hP : va_P (dC, dI) kcl [(q, .inr (5, [.int th, .ref tx, .int (nI ((mz + 1) + 1)), .int fl, .int (bI it), .long al, .ref pt, .int (nI dg), .ref ot, .int (nI wr), .int (nI kz), .ref ka, .ref kd, .ref kp, .int (nI ma), .int (bI wg)])), (tx, .inl (c1, 256, .inl (upd (upd X mz ((v >>> ((24 : Int32) &&& 31)) &&& 255)) (mz + 1) ((v >>> ((16 : Int32) &&& 31)) &&& 255))))] H := hP
      have hD : va_D A [(q, .inr (5, [.int th, .ref tx, .int (nI ((mz + 1) + 1)), .int fl, .int (bI it), .long al, .ref pt, .int (nI dg), .ref ot, .int (nI wr), .int (nI kz), .ref ka, .ref kd, .ref kp, .int (nI ma), .int (bI wg)])), (tx, .inl (c1, 256, .inl (upd (upd X mz ((v >>> ((24 : Int32) &&& 31)) &&& 255)) (mz + 1) ((v >>> ((16 : Int32) &&& 31)) &&& 255))))] := hD
      refine lv_iinc (v := 8) (lv' := [(2, .int 8), (0, .ref q), (1, .int v)]) hx hb dX5_add_33 hl (k := 0) rfl (by decide) (by decide) rfl (fun ls hl => ?_)
      refine lv_goto (tgt := 3) hx hb dX5_add_36 (by decide) ?_
      refine lv_iload_n hx hb dX5_add_3 rfl (lv_at hl 0 rfl) ?_
      refine lv_if_lt (tgt := 39) hx hb dX5_add_4 (by decide) (fun c_4 => ?_) (fun c_4 => ?_)
      · exact absurd c_4 (by decide)
      · refine lv_aload_n hx hb dX5_add_7 rfl (lv_at hl 1 rfl) ?_
        refine va_get (D := (dC, dI)) (ci := 5) (v := .ref tx) (C := RX5) (T := TX5) (N := 16) hx hb hts kin_5 hown hK hP 0 rfl rfl 1 (by decide) (hts _ (kcm kwm_205)) (fun _ h9 => h9) rfl dX5_add_8 ?_
        refine lv_aload_n hx hb dX5_add_11 rfl (lv_at hl 1 rfl) ?_
        refine va_get (D := (dC, dI)) (ci := 5) (v := .int (nI ((mz + 1) + 1))) (C := RX5) (T := TX5) (N := 16) hx hb hts kin_5 hown hK hP 0 rfl rfl 2 (by decide) (hts _ (kcm kwm_206)) (fun _ h9 => h9) rfl dX5_add_12 ?_
        refine lv_iload_n hx hb dX5_add_15 rfl (lv_at hl 2 rfl) ?_
        refine lv_iload_n hx hb dX5_add_16 rfl (lv_at hl 0 rfl) ?_
        refine lv_ishr hx hb dX5_add_17 ?_
        refine lv_sipush (v := 255) hx hb dX5_add_18 (by decide) ?_
        refine lv_iand hx hb dX5_add_21 ?_
        refine va_iast hx hb hK hP hD hS 1 0 rfl rfl (vp_in_nI (by omega) (by decide)) dX5_add_22 (fun H locs hP hD hS => ?_)
        rw [show (nI ((mz + 1) + 1)).toNatClampNeg = ((mz + 1) + 1) from nI_clamp (by omega)] at hP hD
        have hP : va_P (dC, dI) kcl [(q, .inr (5, [.int th, .ref tx, .int (nI ((mz + 1) + 1)), .int fl, .int (bI it), .long al, .ref pt, .int (nI dg), .ref ot, .int (nI wr), .int (nI kz), .ref ka, .ref kd, .ref kp, .int (nI ma), .int (bI wg)])), (tx, .inl (c1, 256, .inl (upd (upd (upd X mz ((v >>> ((24 : Int32) &&& 31)) &&& 255)) (mz + 1) ((v >>> ((16 : Int32) &&& 31)) &&& 255)) ((mz + 1) + 1) ((v >>> ((8 : Int32) &&& 31)) &&& 255))))] H := hP
        have hD : va_D A [(q, .inr (5, [.int th, .ref tx, .int (nI ((mz + 1) + 1)), .int fl, .int (bI it), .long al, .ref pt, .int (nI dg), .ref ot, .int (nI wr), .int (nI kz), .ref ka, .ref kd, .ref kp, .int (nI ma), .int (bI wg)])), (tx, .inl (c1, 256, .inl (upd (upd (upd X mz ((v >>> ((24 : Int32) &&& 31)) &&& 255)) (mz + 1) ((v >>> ((16 : Int32) &&& 31)) &&& 255)) ((mz + 1) + 1) ((v >>> ((8 : Int32) &&& 31)) &&& 255))))] := hD
        refine lv_aload_n hx hb dX5_add_23 rfl (lv_at hl 1 rfl) ?_
        refine lv_dup hx hb dX5_add_24 rfl ?_
        refine va_get (D := (dC, dI)) (ci := 5) (v := .int (nI ((mz + 1) + 1))) (C := RX5) (T := TX5) (N := 16) hx hb hts kin_5 hown hK hP 0 rfl rfl 2 (by decide) (hts _ (kcm kwm_206)) (fun _ h9 => h9) rfl dX5_add_25 ?_
        refine lv_iconst (v := 1) hx hb dX5_add_28 (by decide) ?_
        refine lv_iadd hx hb dX5_add_29 ?_
        rw [show (nI ((mz + 1) + 1)) + 1 = nI (((mz + 1) + 1) + 1) from nI_add ((mz + 1) + 1) 1]
        refine va_put (D := (dC, dI)) (ci := 5) (v := .int (nI (((mz + 1) + 1) + 1))) (ty := .int) (C := RX5) (T := TX5) (N := 16) hx hb hts kin_5 tyX5 tyX5_ok nmX5 hown hK hP hD hS 0 rfl rfl 2 (by decide) (hts _ (kcm kwm_206)) (fun _ h9 => h9) rfl (by decide +kernel) rfl rfl (Nat.le_of_ble_eq_true rfl) dX5_add_30 (fun H locs hP hD hS => ?_)
        have hP : va_P (dC, dI) kcl [(q, .inr (5, [.int th, .ref tx, .int (nI (((mz + 1) + 1) + 1)), .int fl, .int (bI it), .long al, .ref pt, .int (nI dg), .ref ot, .int (nI wr), .int (nI kz), .ref ka, .ref kd, .ref kp, .int (nI ma), .int (bI wg)])), (tx, .inl (c1, 256, .inl (upd (upd (upd X mz ((v >>> ((24 : Int32) &&& 31)) &&& 255)) (mz + 1) ((v >>> ((16 : Int32) &&& 31)) &&& 255)) ((mz + 1) + 1) ((v >>> ((8 : Int32) &&& 31)) &&& 255))))] H := hP
        have hD : va_D A [(q, .inr (5, [.int th, .ref tx, .int (nI (((mz + 1) + 1) + 1)), .int fl, .int (bI it), .long al, .ref pt, .int (nI dg), .ref ot, .int (nI wr), .int (nI kz), .ref ka, .ref kd, .ref kp, .int (nI ma), .int (bI wg)])), (tx, .inl (c1, 256, .inl (upd (upd (upd X mz ((v >>> ((24 : Int32) &&& 31)) &&& 255)) (mz + 1) ((v >>> ((16 : Int32) &&& 31)) &&& 255)) ((mz + 1) + 1) ((v >>> ((8 : Int32) &&& 31)) &&& 255))))] := hD
        refine lv_iinc (v := 0) (lv' := [(2, .int 0), (0, .ref q), (1, .int v)]) hx hb dX5_add_33 hl (k := 0) rfl (by decide) (by decide) rfl (fun ls hl => ?_)
        refine lv_goto (tgt := 3) hx hb dX5_add_36 (by decide) ?_
        refine lv_iload_n hx hb dX5_add_3 rfl (lv_at hl 0 rfl) ?_
        refine lv_if_lt (tgt := 39) hx hb dX5_add_4 (by decide) (fun c_4 => ?_) (fun c_4 => ?_)
        · exact absurd c_4 (by decide)
        · refine lv_aload_n hx hb dX5_add_7 rfl (lv_at hl 1 rfl) ?_
          refine va_get (D := (dC, dI)) (ci := 5) (v := .ref tx) (C := RX5) (T := TX5) (N := 16) hx hb hts kin_5 hown hK hP 0 rfl rfl 1 (by decide) (hts _ (kcm kwm_205)) (fun _ h9 => h9) rfl dX5_add_8 ?_
          refine lv_aload_n hx hb dX5_add_11 rfl (lv_at hl 1 rfl) ?_
          refine va_get (D := (dC, dI)) (ci := 5) (v := .int (nI (((mz + 1) + 1) + 1))) (C := RX5) (T := TX5) (N := 16) hx hb hts kin_5 hown hK hP 0 rfl rfl 2 (by decide) (hts _ (kcm kwm_206)) (fun _ h9 => h9) rfl dX5_add_12 ?_
          refine lv_iload_n hx hb dX5_add_15 rfl (lv_at hl 2 rfl) ?_
          refine lv_iload_n hx hb dX5_add_16 rfl (lv_at hl 0 rfl) ?_
          refine lv_ishr hx hb dX5_add_17 ?_
          refine lv_sipush (v := 255) hx hb dX5_add_18 (by decide) ?_
          refine lv_iand hx hb dX5_add_21 ?_
          refine va_iast hx hb hK hP hD hS 1 0 rfl rfl (vp_in_nI (by omega) (by decide)) dX5_add_22 (fun H locs hP hD hS => ?_)
          rw [show (nI (((mz + 1) + 1) + 1)).toNatClampNeg = (((mz + 1) + 1) + 1) from nI_clamp (by omega)] at hP hD
          have hP : va_P (dC, dI) kcl [(q, .inr (5, [.int th, .ref tx, .int (nI (((mz + 1) + 1) + 1)), .int fl, .int (bI it), .long al, .ref pt, .int (nI dg), .ref ot, .int (nI wr), .int (nI kz), .ref ka, .ref kd, .ref kp, .int (nI ma), .int (bI wg)])), (tx, .inl (c1, 256, .inl (upd (upd (upd (upd X mz ((v >>> ((24 : Int32) &&& 31)) &&& 255)) (mz + 1) ((v >>> ((16 : Int32) &&& 31)) &&& 255)) ((mz + 1) + 1) ((v >>> ((8 : Int32) &&& 31)) &&& 255)) (((mz + 1) + 1) + 1) ((v >>> ((0 : Int32) &&& 31)) &&& 255))))] H := hP
          have hD : va_D A [(q, .inr (5, [.int th, .ref tx, .int (nI (((mz + 1) + 1) + 1)), .int fl, .int (bI it), .long al, .ref pt, .int (nI dg), .ref ot, .int (nI wr), .int (nI kz), .ref ka, .ref kd, .ref kp, .int (nI ma), .int (bI wg)])), (tx, .inl (c1, 256, .inl (upd (upd (upd (upd X mz ((v >>> ((24 : Int32) &&& 31)) &&& 255)) (mz + 1) ((v >>> ((16 : Int32) &&& 31)) &&& 255)) ((mz + 1) + 1) ((v >>> ((8 : Int32) &&& 31)) &&& 255)) (((mz + 1) + 1) + 1) ((v >>> ((0 : Int32) &&& 31)) &&& 255))))] := hD
          refine lv_aload_n hx hb dX5_add_23 rfl (lv_at hl 1 rfl) ?_
          refine lv_dup hx hb dX5_add_24 rfl ?_
          refine va_get (D := (dC, dI)) (ci := 5) (v := .int (nI (((mz + 1) + 1) + 1))) (C := RX5) (T := TX5) (N := 16) hx hb hts kin_5 hown hK hP 0 rfl rfl 2 (by decide) (hts _ (kcm kwm_206)) (fun _ h9 => h9) rfl dX5_add_25 ?_
          refine lv_iconst (v := 1) hx hb dX5_add_28 (by decide) ?_
          refine lv_iadd hx hb dX5_add_29 ?_
          rw [show (nI (((mz + 1) + 1) + 1)) + 1 = nI ((((mz + 1) + 1) + 1) + 1) from nI_add (((mz + 1) + 1) + 1) 1]
          refine va_put (D := (dC, dI)) (ci := 5) (v := .int (nI ((((mz + 1) + 1) + 1) + 1))) (ty := .int) (C := RX5) (T := TX5) (N := 16) hx hb hts kin_5 tyX5 tyX5_ok nmX5 hown hK hP hD hS 0 rfl rfl 2 (by decide) (hts _ (kcm kwm_206)) (fun _ h9 => h9) rfl (by decide +kernel) rfl rfl (Nat.le_of_ble_eq_true rfl) dX5_add_30 (fun H locs hP hD hS => ?_)
          have hP : va_P (dC, dI) kcl [(q, .inr (5, [.int th, .ref tx, .int (nI ((((mz + 1) + 1) + 1) + 1)), .int fl, .int (bI it), .long al, .ref pt, .int (nI dg), .ref ot, .int (nI wr), .int (nI kz), .ref ka, .ref kd, .ref kp, .int (nI ma), .int (bI wg)])), (tx, .inl (c1, 256, .inl (upd (upd (upd (upd X mz ((v >>> ((24 : Int32) &&& 31)) &&& 255)) (mz + 1) ((v >>> ((16 : Int32) &&& 31)) &&& 255)) ((mz + 1) + 1) ((v >>> ((8 : Int32) &&& 31)) &&& 255)) (((mz + 1) + 1) + 1) ((v >>> ((0 : Int32) &&& 31)) &&& 255))))] H := hP
          have hD : va_D A [(q, .inr (5, [.int th, .ref tx, .int (nI ((((mz + 1) + 1) + 1) + 1)), .int fl, .int (bI it), .long al, .ref pt, .int (nI dg), .ref ot, .int (nI wr), .int (nI kz), .ref ka, .ref kd, .ref kp, .int (nI ma), .int (bI wg)])), (tx, .inl (c1, 256, .inl (upd (upd (upd (upd X mz ((v >>> ((24 : Int32) &&& 31)) &&& 255)) (mz + 1) ((v >>> ((16 : Int32) &&& 31)) &&& 255)) ((mz + 1) + 1) ((v >>> ((8 : Int32) &&& 31)) &&& 255)) (((mz + 1) + 1) + 1) ((v >>> ((0 : Int32) &&& 31)) &&& 255))))] := hD
          refine lv_iinc (v := (-8)) (lv' := [(2, .int (-8)), (0, .ref q), (1, .int v)]) hx hb dX5_add_33 hl (k := 0) rfl (by decide) (by decide) rfl (fun ls hl => ?_)
          refine lv_goto (tgt := 3) hx hb dX5_add_36 (by decide) ?_
          refine lv_iload_n hx hb dX5_add_3 rfl (lv_at hl 0 rfl) ?_
          refine lv_if_lt (tgt := 39) hx hb dX5_add_4 (by decide) (fun c_4 => ?_) (fun c_4 => ?_)
          · have hF9 : mAdd X mz v = (upd (upd (upd (upd X mz ((v >>> ((24 : Int32) &&& 31)) &&& 255)) (mz + 1) ((v >>> ((16 : Int32) &&& 31)) &&& 255)) ((mz + 1) + 1) ((v >>> ((8 : Int32) &&& 31)) &&& 255)) (((mz + 1) + 1) + 1) ((v >>> ((0 : Int32) &&& 31)) &&& 255), ((((mz + 1) + 1) + 1) + 1)) := by
              first | (simp only [mAdd]; done) | rfl
            have hP9 : va_P (dC, dI) kcl [(q, .inr (5, [.int th, .ref tx, .int (nI (mAdd X mz v).2), .int fl, .int (bI it), .long al, .ref pt, .int (nI dg), .ref ot, .int (nI wr), .int (nI kz), .ref ka, .ref kd, .ref kp, .int (nI ma), .int (bI wg)])), (tx, .inl (c1, 256, .inl (mAdd X mz v).1))] H := by
              try rw [hF9]
              exact hP.sub [0, 1] rfl
            have hD9 : va_D A [(q, .inr (5, [.int th, .ref tx, .int (nI (mAdd X mz v).2), .int fl, .int (bI it), .long al, .ref pt, .int (nI dg), .ref ot, .int (nI wr), .int (nI kz), .ref ka, .ref kd, .ref kp, .int (nI ma), .int (bI wg)])), (tx, .inl (c1, 256, .inl (mAdd X mz v).1))] := by
              try rw [hF9]
              exact hD.sub [0, 1] (by decide) rfl
            exact kc_vret hx hb hr hlocks hP9 hD9 hS dX5_add_39
          · exact absurd (by decide) c_4
def mLeap (y : Int32) : Bool :=
  if (y - y / 4 * 4) = 0 then
    if (y - y / 100 * 100) = 0 then
      if (y - y / 400 * 400) = 0 then
        true
      else
        false
    else
      true
  else
    false
set_option maxHeartbeats 4000000 in
set_option maxRecDepth 100000 in
theorem m_isLeap (l : Launch) (dC : Nat → ClassId) (dI : Nat → Nat → Nat) (st sz : Nat) (y : Int32)  : Met l yX5_isLeap wsX5_isLeap ({ frames := 0, cells := 0, slots := 0, locals := 0 }) (kc_Pc (dC, dI) kcl st sz [.int y] [] []) (vp_Si (fun r => r = bI (mLeap y))) 0 0 (fun _ => False) := by
  refine kc_ofS (cc := cX5_isLeap) (maxL := 1) (ret := (some .boolean)) (by decide) rfl (Nat.le_of_ble_eq_true rfl) ?_
  intro p e s m below meth c A ls Cx hA hG hK hP hD hS hl
  obtain ⟨hx, hb, hr, hml, hown, hts, hlocks, hnm⟩ := id Cx
  have hl : lv_has ls 1 [(0, .int y)] := hl
  refine lv_iload_n hx hb dX5_isLeap_0 rfl (lv_at hl 0 rfl) ?_
  refine lv_iconst (v := 4) hx hb dX5_isLeap_1 (by decide) ?_
  refine lv_irem hx hb dX5_isLeap_2 (by decide) ?_
  refine lv_if_ne (tgt := 25) hx hb dX5_isLeap_3 (by decide) (fun c_3 => ?_) (fun c_3 => ?_)
  · refine lv_iconst (v := 0) hx hb dX5_isLeap_25 (by decide) ?_
    have hF9 : mLeap y = false := by
      first | (simp only [mLeap, if_neg c_3]; done) | rfl
    have hv9 : (0 : Int32) = bI (mLeap y) := by
      try rw [hF9]
      try rfl
    exact kc_Szret hx hb hr hlocks hv9 (bI_nar hv9) dX5_isLeap_26
  · refine lv_iload_n hx hb dX5_isLeap_6 rfl (lv_at hl 0 rfl) ?_
    refine lv_bipush (v := 100) hx hb dX5_isLeap_7 (by decide) ?_
    refine lv_irem hx hb dX5_isLeap_9 (by decide) ?_
    refine lv_if_ne (tgt := 21) hx hb dX5_isLeap_10 (by decide) (fun c_10 => ?_) (fun c_10 => ?_)
    · refine lv_iconst (v := 1) hx hb dX5_isLeap_21 (by decide) ?_
      refine lv_goto (tgt := 26) hx hb dX5_isLeap_22 (by decide) ?_
      have hF9 : mLeap y = true := by
        first | (simp only [mLeap, if_pos c_3, if_neg c_10]; done) | rfl
      have hv9 : (1 : Int32) = bI (mLeap y) := by
        try rw [hF9]
        try rfl
      exact kc_Szret hx hb hr hlocks hv9 (bI_nar hv9) dX5_isLeap_26
    · refine lv_iload_n hx hb dX5_isLeap_13 rfl (lv_at hl 0 rfl) ?_
      refine lv_sipush (v := 400) hx hb dX5_isLeap_14 (by decide) ?_
      refine lv_irem hx hb dX5_isLeap_17 (by decide) ?_
      refine lv_if_ne (tgt := 25) hx hb dX5_isLeap_18 (by decide) (fun c_18 => ?_) (fun c_18 => ?_)
      · refine lv_iconst (v := 0) hx hb dX5_isLeap_25 (by decide) ?_
        have hF9 : mLeap y = false := by
          first | (simp only [mLeap, if_pos c_3, if_pos c_10, if_neg c_18]; done) | rfl
        have hv9 : (0 : Int32) = bI (mLeap y) := by
          try rw [hF9]
          try rfl
        exact kc_Szret hx hb hr hlocks hv9 (bI_nar hv9) dX5_isLeap_26
      · refine lv_iconst (v := 1) hx hb dX5_isLeap_21 (by decide) ?_
        refine lv_goto (tgt := 26) hx hb dX5_isLeap_22 (by decide) ?_
        have hF9 : mLeap y = true := by
          first | (simp only [mLeap, if_pos c_3, if_pos c_10, if_pos c_18]; done) | rfl
        have hv9 : (1 : Int32) = bI (mLeap y) := by
          try rw [hF9]
          try rfl
        exact kc_Szret hx hb hr hlocks hv9 (bI_nar hv9) dX5_isLeap_26
def mDays (y mo : Int32) : Int32 :=
  if mo = 2 then
    if (bI (mLeap y)) = 0 then
      28
    else
      29
  else
    if mo = 4 then
      30
    else
      if mo = 6 then
        30
      else
        if mo = 9 then
          30
        else
          if mo = 11 then
            30
          else
            31
set_option maxHeartbeats 4000000 in
set_option maxRecDepth 100000 in
theorem m_daysOf (l : Launch) (dC : Nat → ClassId) (dI : Nat → Nat → Nat) (st sz : Nat) (y : Int32) (mo : Int32)  : Met l yX5_daysOf wsX5_daysOf ({ frames := 1, cells := 0, slots := 0, locals := 20 }) (kc_Pc (dC, dI) kcl st sz [.int y, .int mo] [] []) (vp_Si (fun r => r = mDays y mo)) 0 0 (fun _ => False) := by
  refine kc_ofS (cc := cX5_daysOf) (maxL := 2) (ret := (some .int)) (by decide) rfl (Nat.le_of_ble_eq_true rfl) ?_
  intro p e s m below meth c A ls Cx hA hG hK hP hD hS hl
  obtain ⟨hx, hb, hr, hml, hown, hts, hlocks, hnm⟩ := id Cx
  have hl : lv_has ls 2 [(0, .int y), (1, .int mo)] := hl
  refine lv_iload_n hx hb dX5_daysOf_0 rfl (lv_at hl 1 rfl) ?_
  refine lv_iconst (v := 2) hx hb dX5_daysOf_1 (by decide) ?_
  refine lv_icmp_ne (tgt := 20) hx hb dX5_daysOf_2 (by decide) (fun c_2 => ?_) (fun c_2 => ?_)
  · refine lv_iload_n hx hb dX5_daysOf_20 rfl (lv_at hl 1 rfl) ?_
    refine lv_iconst (v := 4) hx hb dX5_daysOf_21 (by decide) ?_
    refine lv_icmp_eq (tgt := 43) hx hb dX5_daysOf_22 (by decide) (fun c_22 => ?_) (fun c_22 => ?_)
    · refine lv_bipush (v := 30) hx hb dX5_daysOf_43 (by decide) ?_
      refine lv_goto (tgt := 50) hx hb dX5_daysOf_45 (by decide) ?_
      have hF9 : mDays y mo = 30 := by
        first | (simp only [mDays, if_neg c_2, if_pos c_22]; done) | rfl
      have hv9 : (30 : Int32) = mDays y mo := by
        try rw [hF9]
        try rfl
      exact kc_Siret hx hb hr hlocks hv9 dX5_daysOf_50
    · refine lv_iload_n hx hb dX5_daysOf_25 rfl (lv_at hl 1 rfl) ?_
      refine lv_bipush (v := 6) hx hb dX5_daysOf_26 (by decide) ?_
      refine lv_icmp_eq (tgt := 43) hx hb dX5_daysOf_28 (by decide) (fun c_28 => ?_) (fun c_28 => ?_)
      · refine lv_bipush (v := 30) hx hb dX5_daysOf_43 (by decide) ?_
        refine lv_goto (tgt := 50) hx hb dX5_daysOf_45 (by decide) ?_
        have hF9 : mDays y mo = 30 := by
          first | (simp only [mDays, if_neg c_2, if_neg c_22, if_pos c_28]; done) | rfl
        have hv9 : (30 : Int32) = mDays y mo := by
          try rw [hF9]
          try rfl
        exact kc_Siret hx hb hr hlocks hv9 dX5_daysOf_50
      · refine lv_iload_n hx hb dX5_daysOf_31 rfl (lv_at hl 1 rfl) ?_
        refine lv_bipush (v := 9) hx hb dX5_daysOf_32 (by decide) ?_
        refine lv_icmp_eq (tgt := 43) hx hb dX5_daysOf_34 (by decide) (fun c_34 => ?_) (fun c_34 => ?_)
        · refine lv_bipush (v := 30) hx hb dX5_daysOf_43 (by decide) ?_
          refine lv_goto (tgt := 50) hx hb dX5_daysOf_45 (by decide) ?_
          have hF9 : mDays y mo = 30 := by
            first | (simp only [mDays, if_neg c_2, if_neg c_22, if_neg c_28, if_pos c_34]; done) | rfl
          have hv9 : (30 : Int32) = mDays y mo := by
            try rw [hF9]
            try rfl
          exact kc_Siret hx hb hr hlocks hv9 dX5_daysOf_50
        · refine lv_iload_n hx hb dX5_daysOf_37 rfl (lv_at hl 1 rfl) ?_
          refine lv_bipush (v := 11) hx hb dX5_daysOf_38 (by decide) ?_
          refine lv_icmp_ne (tgt := 48) hx hb dX5_daysOf_40 (by decide) (fun c_40 => ?_) (fun c_40 => ?_)
          · refine lv_bipush (v := 31) hx hb dX5_daysOf_48 (by decide) ?_
            have hF9 : mDays y mo = 31 := by
              first | (simp only [mDays, if_neg c_2, if_neg c_22, if_neg c_28, if_neg c_34, if_neg c_40]; done) | rfl
            have hv9 : (31 : Int32) = mDays y mo := by
              try rw [hF9]
              try rfl
            exact kc_Siret hx hb hr hlocks hv9 dX5_daysOf_50
          · refine lv_bipush (v := 30) hx hb dX5_daysOf_43 (by decide) ?_
            refine lv_goto (tgt := 50) hx hb dX5_daysOf_45 (by decide) ?_
            have hF9 : mDays y mo = 30 := by
              first | (simp only [mDays, if_neg c_2, if_neg c_22, if_neg c_28, if_neg c_34, if_pos c_40]; done) | rfl
            have hv9 : (30 : Int32) = mDays y mo := by
              try rw [hF9]
              try rfl
            exact kc_Siret hx hb hr hlocks hv9 dX5_daysOf_50
  · refine lv_iload_n hx hb dX5_daysOf_5 rfl (lv_at hl 0 rfl) ?_
    have hPc := hP.sub (ws' := []) [] rfl
    have hDc := hD.sub (ws' := []) [] (by decide) rfl
    have hKc := hK.sub (tys' := []) [] rfl
    have hFc := va_free (wc := []) hD hS hA [] rfl
    refine kc_callSi (val := bI (mLeap y)) (va_runS (As := [.int y]) (rest := []) ⟨hx, hb, hml, hown, hts⟩ (m_isLeap l dC dI st s.heap.size y ) (va_cwS 1 hts (kwS kwm_201 kwm_202 kwm_203 kwm_200) rfl rfl rfl (by decide +kernel) ⟨Nat.le_of_ble_eq_true rfl, Nat.le_of_ble_eq_true rfl⟩) ⟨kc_blind, kc_pre hG hS hFc hKc hPc hDc⟩ rfl rfl hl.1 rfl (lv_room (Nat.le_of_ble_eq_true rfl)) dX5_daysOf_6 ⟨Nat.le_of_ble_eq_true rfl, Nat.le_of_ble_eq_true rfl⟩) ?_
    refine lv_if_eq (tgt := 17) hx hb dX5_daysOf_9 (by decide) (fun c_9 => ?_) (fun c_9 => ?_)
    · refine lv_bipush (v := 28) hx hb dX5_daysOf_17 (by decide) ?_
      have hF9 : mDays y mo = 28 := by
        first | (simp only [mDays, if_pos c_2, if_pos c_9]; done) | rfl
      have hv9 : (28 : Int32) = mDays y mo := by
        try rw [hF9]
        try rfl
      exact kc_Siret hx hb hr hlocks hv9 dX5_daysOf_19
    · refine lv_bipush (v := 29) hx hb dX5_daysOf_12 (by decide) ?_
      refine lv_goto (tgt := 19) hx hb dX5_daysOf_14 (by decide) ?_
      have hF9 : mDays y mo = 29 := by
        first | (simp only [mDays, if_pos c_2, if_neg c_9]; done) | rfl
      have hv9 : (29 : Int32) = mDays y mo := by
        try rw [hF9]
        try rfl
      exact kc_Siret hx hb hr hlocks hv9 dX5_daysOf_19
def mTo (y : Int32) : Int32 :=
  (((365 * y) + ((y + 3) / 4)) - ((y + 99) / 100)) + ((y + 399) / 400)
set_option maxHeartbeats 4000000 in
set_option maxRecDepth 100000 in
theorem m_daysTo (l : Launch) (dC : Nat → ClassId) (dI : Nat → Nat → Nat) (st sz : Nat) (y : Int32)  : Met l yX5_daysTo wsX5_daysTo ({ frames := 0, cells := 0, slots := 0, locals := 0 }) (kc_Pc (dC, dI) kcl st sz [.int y] [] []) (vp_Si (fun r => r = mTo y)) 0 0 (fun _ => False) := by
  refine kc_ofS (cc := cX5_daysTo) (maxL := 1) (ret := (some .int)) (by decide) rfl (Nat.le_of_ble_eq_true rfl) ?_
  intro p e s m below meth c A ls Cx hA hG hK hP hD hS hl
  obtain ⟨hx, hb, hr, hml, hown, hts, hlocks, hnm⟩ := id Cx
  have hl : lv_has ls 1 [(0, .int y)] := hl
  refine lv_sipush (v := 365) hx hb dX5_daysTo_0 (by decide) ?_
  refine lv_iload_n hx hb dX5_daysTo_3 rfl (lv_at hl 0 rfl) ?_
  refine lv_imul hx hb dX5_daysTo_4 ?_
  refine lv_iload_n hx hb dX5_daysTo_5 rfl (lv_at hl 0 rfl) ?_
  refine lv_iconst (v := 3) hx hb dX5_daysTo_6 (by decide) ?_
  refine lv_iadd hx hb dX5_daysTo_7 ?_
  refine lv_iconst (v := 4) hx hb dX5_daysTo_8 (by decide) ?_
  refine lv_idiv hx hb dX5_daysTo_9 (by decide) ?_
  refine lv_iadd hx hb dX5_daysTo_10 ?_
  refine lv_iload_n hx hb dX5_daysTo_11 rfl (lv_at hl 0 rfl) ?_
  refine lv_bipush (v := 99) hx hb dX5_daysTo_12 (by decide) ?_
  refine lv_iadd hx hb dX5_daysTo_14 ?_
  refine lv_bipush (v := 100) hx hb dX5_daysTo_15 (by decide) ?_
  refine lv_idiv hx hb dX5_daysTo_17 (by decide) ?_
  refine lv_isub hx hb dX5_daysTo_18 ?_
  refine lv_iload_n hx hb dX5_daysTo_19 rfl (lv_at hl 0 rfl) ?_
  refine lv_sipush (v := 399) hx hb dX5_daysTo_20 (by decide) ?_
  refine lv_iadd hx hb dX5_daysTo_23 ?_
  refine lv_sipush (v := 400) hx hb dX5_daysTo_24 (by decide) ?_
  refine lv_idiv hx hb dX5_daysTo_27 (by decide) ?_
  refine lv_iadd hx hb dX5_daysTo_28 ?_
  have hF9 : mTo y = (((365 * y) + ((y + 3) / 4)) - ((y + 99) / 100)) + ((y + 399) / 400) := by
    first | (simp only [mTo]; done) | rfl
  have hv9 : (((365 * y) + ((y + 3) / 4)) - ((y + 99) / 100)) + ((y + 399) / 400) = mTo y := by
    try rw [hF9]
    try rfl
  exact kc_Siret hx hb hr hlocks hv9 dX5_daysTo_29
