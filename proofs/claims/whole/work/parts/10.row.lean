set_option maxHeartbeats 4000000 in
set_option maxRecDepth 100000 in
theorem c_Row_append (l : Launch) (dC : Nat → ClassId) (dI : Nat → Nat → Nat) (st sz : Nat) (h : Nat) (ab : Nat) (cB : ClassId) (f : Nat → Int32) (n : Nat) (v : Int32) (hn : n ≤ 242) : Met l yX0_append wsX0_append ({ frames := 0, cells := 0, slots := 0, locals := 0 }) (kc_Pc (dC, dI) kcl st sz [.ref h, .int v] [(h, .inr (0, [.ref ab, .int (nI n)])), (ab, .inl (cB, 242, .inl f))] [(cB, .byte)]) (kc_Qv (dC, dI) kcl [(h, .inr (0, [.ref ab, .int (nI (rApp f n v).2)])), (ab, .inl (cB, 242, .inl (rApp f n v).1))] (va_A [(h, .inr (0, [.ref ab, .int (nI n)])), (ab, .inl (cB, 242, .inl f))] sz)) 0 0 (va_A [(h, .inr (0, [.ref ab, .int (nI n)])), (ab, .inl (cB, 242, .inl f))] sz) := by
  refine kc_ofW (Qc := fun A => (kc_Qv (dC, dI) kcl [(h, .inr (0, [.ref ab, .int (nI (rApp f n v).2)])), (ab, .inl (cB, 242, .inl (rApp f n v).1))] A)) (cc := cX0_append) (maxL := 2) (ret := none) (by decide) rfl (Nat.le_of_ble_eq_true rfl) ?_
  intro p e s m below meth c A ls Cx hA hG hK hP hD hS hl
  obtain ⟨hx, hb, hr, hml, hown, hts, hlocks, hnm⟩ := id Cx
  have hl : lv_has ls 2 [(0, .ref h), (1, .int v)] := hl
  refine lv_aload_n hx hb dX0_append_0 rfl (lv_at hl 0 rfl) ?_
  refine va_get (D := (dC, dI)) (ci := 0) (v := .int (nI n)) (C := RX0) (T := TX0) (N := 2) hx hb hts kin_0 hown hK hP 0 rfl rfl 1 (by decide) (hts _ (kcm kwm_9)) (fun _ h9 => h9) rfl dX0_append_1 ?_
  refine lv_aload_n hx hb dX0_append_4 rfl (lv_at hl 0 rfl) ?_
  refine va_get (D := (dC, dI)) (ci := 0) (v := .ref ab) (C := RX0) (T := TX0) (N := 2) hx hb hts kin_0 hown hK hP 0 rfl rfl 0 (by decide) (hts _ (kcm kwm_10)) (fun _ h9 => h9) rfl dX0_append_5 ?_
  refine va_alen (v := 242) hx hb hK hP 1 0 rfl rfl rfl dX0_append_8 ?_
  refine lv_icmp_ge (tgt := 33) hx hb dX0_append_9 (by decide) (fun c_9 => ?_) (fun c_9 => ?_)
  · have hge : ¬ n < 242 := kb_ge (N := 242) c_9 (by decide)
    have hP9 : va_P (dC, dI) kcl [(h, .inr (0, [.ref ab, .int (nI (rApp f n v).2)])), (ab, .inl (cB, 242, .inl (rApp f n v).1))] s.heap := by
      simp only [rApp, if_neg hge]
      exact hP.sub [0, 1] rfl
    have hD9 : va_D A [(h, .inr (0, [.ref ab, .int (nI (rApp f n v).2)])), (ab, .inl (cB, 242, .inl (rApp f n v).1))] := by
      simp only [rApp, if_neg hge]
      exact hD.sub [0, 1] (by decide) rfl
    exact kc_vret hx hb hr hlocks hP9 hD9 hS dX0_append_33
  · have hlt : n < 242 := kb_lt (N := 242) c_9 (by omega)
    refine lv_aload_n hx hb dX0_append_12 rfl (lv_at hl 0 rfl) ?_
    refine va_get (D := (dC, dI)) (ci := 0) (v := .ref ab) (C := RX0) (T := TX0) (N := 2) hx hb hts kin_0 hown hK hP 0 rfl rfl 0 (by decide) (hts _ (kcm kwm_10)) (fun _ h9 => h9) rfl dX0_append_13 ?_
    refine lv_aload_n hx hb dX0_append_16 rfl (lv_at hl 0 rfl) ?_
    refine va_get (D := (dC, dI)) (ci := 0) (v := .int (nI n)) (C := RX0) (T := TX0) (N := 2) hx hb hts kin_0 hown hK hP 0 rfl rfl 1 (by decide) (hts _ (kcm kwm_9)) (fun _ h9 => h9) rfl dX0_append_17 ?_
    refine lv_iload_n hx hb dX0_append_20 rfl (lv_at hl 1 rfl) ?_
    refine lv_i2b (v := v.toInt8.toInt32) hx hb dX0_append_21 rfl ?_
    refine va_bast hx hb hK hP hD hS 1 0 rfl rfl (vp_in_nI hlt (by decide)) dX0_append_22 (fun H locs hP hD hS => ?_)
    rw [show (nI n).toNatClampNeg = n from nI_clamp (by omega)] at hP hD
    have hP : va_P (dC, dI) kcl [(h, .inr (0, [.ref ab, .int (nI n)])), (ab, .inl (cB, 242, .inl (upd f n (vp_nar .byte v.toInt8.toInt32))))] H := hP
    have hD : va_D A [(h, .inr (0, [.ref ab, .int (nI n)])), (ab, .inl (cB, 242, .inl (upd f n (vp_nar .byte v.toInt8.toInt32))))] := hD
    refine lv_aload_n hx hb dX0_append_23 rfl (lv_at hl 0 rfl) ?_
    refine lv_dup hx hb dX0_append_24 rfl ?_
    refine va_get (D := (dC, dI)) (ci := 0) (v := .int (nI n)) (C := RX0) (T := TX0) (N := 2) hx hb hts kin_0 hown hK hP 0 rfl rfl 1 (by decide) (hts _ (kcm kwm_9)) (fun _ h9 => h9) rfl dX0_append_25 ?_
    refine lv_iconst (v := 1) hx hb dX0_append_28 (by decide) ?_
    refine lv_iadd hx hb dX0_append_29 ?_
    refine va_put (D := (dC, dI)) (ci := 0) (v := .int ((nI n) + 1)) (ty := .int) (C := RX0) (T := TX0) (N := 2) hx hb hts kin_0 tyX0 tyX0_ok nmX0 hown hK hP hD hS 0 rfl rfl 1 (by decide) (hts _ (kcm kwm_9)) (fun _ h9 => h9) rfl (by decide +kernel) rfl rfl (Nat.le_of_ble_eq_true rfl) dX0_append_30 (fun H locs hP hD hS => ?_)
    have hP : va_P (dC, dI) kcl [(h, .inr (0, [.ref ab, .int ((nI n) + 1)])), (ab, .inl (cB, 242, .inl (upd f n (vp_nar .byte v.toInt8.toInt32))))] H := hP
    have hD : va_D A [(h, .inr (0, [.ref ab, .int ((nI n) + 1)])), (ab, .inl (cB, 242, .inl (upd f n (vp_nar .byte v.toInt8.toInt32))))] := hD
    rw [pk_vb] at hP hD
    have hP9 : va_P (dC, dI) kcl [(h, .inr (0, [.ref ab, .int (nI (rApp f n v).2)])), (ab, .inl (cB, 242, .inl (rApp f n v).1))] H := by
      simp only [rApp, if_pos hlt, nI_succ]
      exact hP.sub [0, 1] rfl
    have hD9 : va_D A [(h, .inr (0, [.ref ab, .int (nI (rApp f n v).2)])), (ab, .inl (cB, 242, .inl (rApp f n v).1))] := by
      simp only [rApp, if_pos hlt, nI_succ]
      exact hD.sub [0, 1] (by decide) rfl
    exact kc_vret hx hb hr hlocks hP9 hD9 hS dX0_append_33
set_option maxHeartbeats 4000000 in
set_option maxRecDepth 100000 in
theorem c_Row_appendFour (l : Launch) (dC : Nat → ClassId) (dI : Nat → Nat → Nat) (st sz : Nat) (h : Nat) (ab : Nat) (cB : ClassId) (f : Nat → Int32) (n : Nat) (v : Int32) (hn : n ≤ 242) : Met l yX0_appendFour wsX0_appendFour ({ frames := 1, cells := 0, slots := 0, locals := 21 }) (kc_Pc (dC, dI) kcl st sz [.ref h, .int v] [(h, .inr (0, [.ref ab, .int (nI n)])), (ab, .inl (cB, 242, .inl f))] [(cB, .byte)]) (kc_Qv (dC, dI) kcl [(h, .inr (0, [.ref ab, .int (nI (rFour f n v).2)])), (ab, .inl (cB, 242, .inl (rFour f n v).1))] (va_A [(h, .inr (0, [.ref ab, .int (nI n)])), (ab, .inl (cB, 242, .inl f))] sz)) 0 0 (va_A [(h, .inr (0, [.ref ab, .int (nI n)])), (ab, .inl (cB, 242, .inl f))] sz) := by
  refine kc_ofW (Qc := fun A => (kc_Qv (dC, dI) kcl [(h, .inr (0, [.ref ab, .int (nI (rFour f n v).2)])), (ab, .inl (cB, 242, .inl (rFour f n v).1))] A)) (cc := cX0_appendFour) (maxL := 2) (ret := none) (by decide) rfl (Nat.le_of_ble_eq_true rfl) ?_
  intro p e s m below meth c A ls Cx hA hG hK hP hD hS hl
  obtain ⟨hx, hb, hr, hml, hown, hts, hlocks, hnm⟩ := id Cx
  have hl : lv_has ls 2 [(0, .ref h), (1, .int v)] := hl
  refine lv_aload_n hx hb dX0_appendFour_0 rfl (lv_at hl 0 rfl) ?_
  refine lv_iload_n hx hb dX0_appendFour_1 rfl (lv_at hl 1 rfl) ?_
  refine lv_bipush (v := 24) hx hb dX0_appendFour_2 (by decide) ?_
  refine lv_iushr (v := (v.toUInt32 >>> ((24 : Int32).toUInt32 &&& Int32.toUInt32 31)).toInt32) hx hb dX0_appendFour_4 rfl ?_
  have hPc := hP.sub (ws' := [(h, .inr (0, [.ref ab, .int (nI n)])), (ab, .inl (cB, 242, .inl f))]) [0, 1] rfl
  have hDc := hD.sub (ws' := [(h, .inr (0, [.ref ab, .int (nI n)])), (ab, .inl (cB, 242, .inl f))]) [0, 1] (by decide) rfl
  have hKc := hK.sub (tys' := [(cB, .byte)]) [0] rfl
  have hFc := va_free (wc := [(h, .inr (0, [.ref ab, .int (nI n)])), (ab, .inl (cB, 242, .inl f))]) hD hS hA [0, 1] rfl
  refine kc_callv (wr := []) (w1 := [(h, .inr (0, [.ref ab, .int (nI (rApp f n (v.toUInt32 >>> ((24 : Int32).toUInt32 &&& Int32.toUInt32 31)).toInt32).2)])), (ab, .inl (cB, 242, .inl (rApp f n (v.toUInt32 >>> ((24 : Int32).toUInt32 &&& Int32.toUInt32 31)).toInt32).1))]) (va_runV (As := [.int (v.toUInt32 >>> ((24 : Int32).toUInt32 &&& Int32.toUInt32 31)).toInt32]) (rest := []) ⟨hx, hb, hml, hown, hts⟩ (c_Row_append l dC dI st s.heap.size h ab cB f n (v.toUInt32 >>> ((24 : Int32).toUInt32 &&& Int32.toUInt32 31)).toInt32 hn) (cwV 1 hts (kwV kwm_1 kwm_2 kwm_3 kwm_4 kwm_0) rfl rfl rfl (by decide +kernel) ⟨Nat.le_of_ble_eq_true rfl, Nat.le_of_ble_eq_true rfl⟩) ⟨kc_blind, va_recv hKc hPc (ci := 0) (q0 := 0) rfl rfl, kc_pre hG hS hFc hKc hPc hDc⟩ rfl rfl hl.1 rfl (lv_room (Nat.le_of_ble_eq_true rfl)) dX0_appendFour_5 ⟨Nat.le_of_ble_eq_true rfl, Nat.le_of_ble_eq_true rfl⟩) hP hD hS hFc [0, 1] [] rfl rfl (by decide) (by decide) (fun H locs hP hD hS => ?_)
  have hP : va_P (dC, dI) kcl [(h, .inr (0, [.ref ab, .int (nI (rApp f n (v.toUInt32 >>> ((24 : Int32).toUInt32 &&& Int32.toUInt32 31)).toInt32).2)])), (ab, .inl (cB, 242, .inl (rApp f n (v.toUInt32 >>> ((24 : Int32).toUInt32 &&& Int32.toUInt32 31)).toInt32).1))] H := hP
  have hD : va_D A [(h, .inr (0, [.ref ab, .int (nI (rApp f n (v.toUInt32 >>> ((24 : Int32).toUInt32 &&& Int32.toUInt32 31)).toInt32).2)])), (ab, .inl (cB, 242, .inl (rApp f n (v.toUInt32 >>> ((24 : Int32).toUInt32 &&& Int32.toUInt32 31)).toInt32).1))] := hD
  refine lv_aload_n hx hb dX0_appendFour_8 rfl (lv_at hl 0 rfl) ?_
  refine lv_iload_n hx hb dX0_appendFour_9 rfl (lv_at hl 1 rfl) ?_
  refine lv_bipush (v := 16) hx hb dX0_appendFour_10 (by decide) ?_
  refine lv_iushr (v := (v.toUInt32 >>> ((16 : Int32).toUInt32 &&& Int32.toUInt32 31)).toInt32) hx hb dX0_appendFour_12 rfl ?_
  have hPc := hP.sub (ws' := [(h, .inr (0, [.ref ab, .int (nI (rApp f n (v.toUInt32 >>> ((24 : Int32).toUInt32 &&& Int32.toUInt32 31)).toInt32).2)])), (ab, .inl (cB, 242, .inl (rApp f n (v.toUInt32 >>> ((24 : Int32).toUInt32 &&& Int32.toUInt32 31)).toInt32).1))]) [0, 1] rfl
  have hDc := hD.sub (ws' := [(h, .inr (0, [.ref ab, .int (nI (rApp f n (v.toUInt32 >>> ((24 : Int32).toUInt32 &&& Int32.toUInt32 31)).toInt32).2)])), (ab, .inl (cB, 242, .inl (rApp f n (v.toUInt32 >>> ((24 : Int32).toUInt32 &&& Int32.toUInt32 31)).toInt32).1))]) [0, 1] (by decide) rfl
  have hKc := hK.sub (tys' := [(cB, .byte)]) [0] rfl
  have hFc := va_free (wc := [(h, .inr (0, [.ref ab, .int (nI (rApp f n (v.toUInt32 >>> ((24 : Int32).toUInt32 &&& Int32.toUInt32 31)).toInt32).2)])), (ab, .inl (cB, 242, .inl (rApp f n (v.toUInt32 >>> ((24 : Int32).toUInt32 &&& Int32.toUInt32 31)).toInt32).1))]) hD hS hA [0, 1] rfl
  refine kc_callv (wr := []) (w1 := [(h, .inr (0, [.ref ab, .int (nI (rApp (rApp f n (v.toUInt32 >>> ((24 : Int32).toUInt32 &&& Int32.toUInt32 31)).toInt32).1 (rApp f n (v.toUInt32 >>> ((24 : Int32).toUInt32 &&& Int32.toUInt32 31)).toInt32).2 (v.toUInt32 >>> ((16 : Int32).toUInt32 &&& Int32.toUInt32 31)).toInt32).2)])), (ab, .inl (cB, 242, .inl (rApp (rApp f n (v.toUInt32 >>> ((24 : Int32).toUInt32 &&& Int32.toUInt32 31)).toInt32).1 (rApp f n (v.toUInt32 >>> ((24 : Int32).toUInt32 &&& Int32.toUInt32 31)).toInt32).2 (v.toUInt32 >>> ((16 : Int32).toUInt32 &&& Int32.toUInt32 31)).toInt32).1))]) (va_runV (As := [.int (v.toUInt32 >>> ((16 : Int32).toUInt32 &&& Int32.toUInt32 31)).toInt32]) (rest := []) ⟨hx, hb, hml, hown, hts⟩ (c_Row_append l dC dI st H.size h ab cB (rApp f n (v.toUInt32 >>> ((24 : Int32).toUInt32 &&& Int32.toUInt32 31)).toInt32).1 (rApp f n (v.toUInt32 >>> ((24 : Int32).toUInt32 &&& Int32.toUInt32 31)).toInt32).2 (v.toUInt32 >>> ((16 : Int32).toUInt32 &&& Int32.toUInt32 31)).toInt32 (rApp_le hn)) (cwV 1 hts (kwV kwm_1 kwm_2 kwm_3 kwm_4 kwm_0) rfl rfl rfl (by decide +kernel) ⟨Nat.le_of_ble_eq_true rfl, Nat.le_of_ble_eq_true rfl⟩) ⟨kc_blind, va_recv hKc hPc (ci := 0) (q0 := 0) rfl rfl, kc_pre hG hS hFc hKc hPc hDc⟩ rfl rfl hl.1 rfl (lv_room (Nat.le_of_ble_eq_true rfl)) dX0_appendFour_13 ⟨Nat.le_of_ble_eq_true rfl, Nat.le_of_ble_eq_true rfl⟩) hP hD hS hFc [0, 1] [] rfl rfl (by decide) (by decide) (fun H locs hP hD hS => ?_)
  have hP : va_P (dC, dI) kcl [(h, .inr (0, [.ref ab, .int (nI (rApp (rApp f n (v.toUInt32 >>> ((24 : Int32).toUInt32 &&& Int32.toUInt32 31)).toInt32).1 (rApp f n (v.toUInt32 >>> ((24 : Int32).toUInt32 &&& Int32.toUInt32 31)).toInt32).2 (v.toUInt32 >>> ((16 : Int32).toUInt32 &&& Int32.toUInt32 31)).toInt32).2)])), (ab, .inl (cB, 242, .inl (rApp (rApp f n (v.toUInt32 >>> ((24 : Int32).toUInt32 &&& Int32.toUInt32 31)).toInt32).1 (rApp f n (v.toUInt32 >>> ((24 : Int32).toUInt32 &&& Int32.toUInt32 31)).toInt32).2 (v.toUInt32 >>> ((16 : Int32).toUInt32 &&& Int32.toUInt32 31)).toInt32).1))] H := hP
  have hD : va_D A [(h, .inr (0, [.ref ab, .int (nI (rApp (rApp f n (v.toUInt32 >>> ((24 : Int32).toUInt32 &&& Int32.toUInt32 31)).toInt32).1 (rApp f n (v.toUInt32 >>> ((24 : Int32).toUInt32 &&& Int32.toUInt32 31)).toInt32).2 (v.toUInt32 >>> ((16 : Int32).toUInt32 &&& Int32.toUInt32 31)).toInt32).2)])), (ab, .inl (cB, 242, .inl (rApp (rApp f n (v.toUInt32 >>> ((24 : Int32).toUInt32 &&& Int32.toUInt32 31)).toInt32).1 (rApp f n (v.toUInt32 >>> ((24 : Int32).toUInt32 &&& Int32.toUInt32 31)).toInt32).2 (v.toUInt32 >>> ((16 : Int32).toUInt32 &&& Int32.toUInt32 31)).toInt32).1))] := hD
  refine lv_aload_n hx hb dX0_appendFour_16 rfl (lv_at hl 0 rfl) ?_
  refine lv_iload_n hx hb dX0_appendFour_17 rfl (lv_at hl 1 rfl) ?_
  refine lv_bipush (v := 8) hx hb dX0_appendFour_18 (by decide) ?_
  refine lv_iushr (v := (v.toUInt32 >>> ((8 : Int32).toUInt32 &&& Int32.toUInt32 31)).toInt32) hx hb dX0_appendFour_20 rfl ?_
  have hPc := hP.sub (ws' := [(h, .inr (0, [.ref ab, .int (nI (rApp (rApp f n (v.toUInt32 >>> ((24 : Int32).toUInt32 &&& Int32.toUInt32 31)).toInt32).1 (rApp f n (v.toUInt32 >>> ((24 : Int32).toUInt32 &&& Int32.toUInt32 31)).toInt32).2 (v.toUInt32 >>> ((16 : Int32).toUInt32 &&& Int32.toUInt32 31)).toInt32).2)])), (ab, .inl (cB, 242, .inl (rApp (rApp f n (v.toUInt32 >>> ((24 : Int32).toUInt32 &&& Int32.toUInt32 31)).toInt32).1 (rApp f n (v.toUInt32 >>> ((24 : Int32).toUInt32 &&& Int32.toUInt32 31)).toInt32).2 (v.toUInt32 >>> ((16 : Int32).toUInt32 &&& Int32.toUInt32 31)).toInt32).1))]) [0, 1] rfl
  have hDc := hD.sub (ws' := [(h, .inr (0, [.ref ab, .int (nI (rApp (rApp f n (v.toUInt32 >>> ((24 : Int32).toUInt32 &&& Int32.toUInt32 31)).toInt32).1 (rApp f n (v.toUInt32 >>> ((24 : Int32).toUInt32 &&& Int32.toUInt32 31)).toInt32).2 (v.toUInt32 >>> ((16 : Int32).toUInt32 &&& Int32.toUInt32 31)).toInt32).2)])), (ab, .inl (cB, 242, .inl (rApp (rApp f n (v.toUInt32 >>> ((24 : Int32).toUInt32 &&& Int32.toUInt32 31)).toInt32).1 (rApp f n (v.toUInt32 >>> ((24 : Int32).toUInt32 &&& Int32.toUInt32 31)).toInt32).2 (v.toUInt32 >>> ((16 : Int32).toUInt32 &&& Int32.toUInt32 31)).toInt32).1))]) [0, 1] (by decide) rfl
  have hKc := hK.sub (tys' := [(cB, .byte)]) [0] rfl
  have hFc := va_free (wc := [(h, .inr (0, [.ref ab, .int (nI (rApp (rApp f n (v.toUInt32 >>> ((24 : Int32).toUInt32 &&& Int32.toUInt32 31)).toInt32).1 (rApp f n (v.toUInt32 >>> ((24 : Int32).toUInt32 &&& Int32.toUInt32 31)).toInt32).2 (v.toUInt32 >>> ((16 : Int32).toUInt32 &&& Int32.toUInt32 31)).toInt32).2)])), (ab, .inl (cB, 242, .inl (rApp (rApp f n (v.toUInt32 >>> ((24 : Int32).toUInt32 &&& Int32.toUInt32 31)).toInt32).1 (rApp f n (v.toUInt32 >>> ((24 : Int32).toUInt32 &&& Int32.toUInt32 31)).toInt32).2 (v.toUInt32 >>> ((16 : Int32).toUInt32 &&& Int32.toUInt32 31)).toInt32).1))]) hD hS hA [0, 1] rfl
  refine kc_callv (wr := []) (w1 := [(h, .inr (0, [.ref ab, .int (nI (rApp (rApp (rApp f n (v.toUInt32 >>> ((24 : Int32).toUInt32 &&& Int32.toUInt32 31)).toInt32).1 (rApp f n (v.toUInt32 >>> ((24 : Int32).toUInt32 &&& Int32.toUInt32 31)).toInt32).2 (v.toUInt32 >>> ((16 : Int32).toUInt32 &&& Int32.toUInt32 31)).toInt32).1 (rApp (rApp f n (v.toUInt32 >>> ((24 : Int32).toUInt32 &&& Int32.toUInt32 31)).toInt32).1 (rApp f n (v.toUInt32 >>> ((24 : Int32).toUInt32 &&& Int32.toUInt32 31)).toInt32).2 (v.toUInt32 >>> ((16 : Int32).toUInt32 &&& Int32.toUInt32 31)).toInt32).2 (v.toUInt32 >>> ((8 : Int32).toUInt32 &&& Int32.toUInt32 31)).toInt32).2)])), (ab, .inl (cB, 242, .inl (rApp (rApp (rApp f n (v.toUInt32 >>> ((24 : Int32).toUInt32 &&& Int32.toUInt32 31)).toInt32).1 (rApp f n (v.toUInt32 >>> ((24 : Int32).toUInt32 &&& Int32.toUInt32 31)).toInt32).2 (v.toUInt32 >>> ((16 : Int32).toUInt32 &&& Int32.toUInt32 31)).toInt32).1 (rApp (rApp f n (v.toUInt32 >>> ((24 : Int32).toUInt32 &&& Int32.toUInt32 31)).toInt32).1 (rApp f n (v.toUInt32 >>> ((24 : Int32).toUInt32 &&& Int32.toUInt32 31)).toInt32).2 (v.toUInt32 >>> ((16 : Int32).toUInt32 &&& Int32.toUInt32 31)).toInt32).2 (v.toUInt32 >>> ((8 : Int32).toUInt32 &&& Int32.toUInt32 31)).toInt32).1))]) (va_runV (As := [.int (v.toUInt32 >>> ((8 : Int32).toUInt32 &&& Int32.toUInt32 31)).toInt32]) (rest := []) ⟨hx, hb, hml, hown, hts⟩ (c_Row_append l dC dI st H.size h ab cB (rApp (rApp f n (v.toUInt32 >>> ((24 : Int32).toUInt32 &&& Int32.toUInt32 31)).toInt32).1 (rApp f n (v.toUInt32 >>> ((24 : Int32).toUInt32 &&& Int32.toUInt32 31)).toInt32).2 (v.toUInt32 >>> ((16 : Int32).toUInt32 &&& Int32.toUInt32 31)).toInt32).1 (rApp (rApp f n (v.toUInt32 >>> ((24 : Int32).toUInt32 &&& Int32.toUInt32 31)).toInt32).1 (rApp f n (v.toUInt32 >>> ((24 : Int32).toUInt32 &&& Int32.toUInt32 31)).toInt32).2 (v.toUInt32 >>> ((16 : Int32).toUInt32 &&& Int32.toUInt32 31)).toInt32).2 (v.toUInt32 >>> ((8 : Int32).toUInt32 &&& Int32.toUInt32 31)).toInt32 (rApp_le (rApp_le hn))) (cwV 1 hts (kwV kwm_1 kwm_2 kwm_3 kwm_4 kwm_0) rfl rfl rfl (by decide +kernel) ⟨Nat.le_of_ble_eq_true rfl, Nat.le_of_ble_eq_true rfl⟩) ⟨kc_blind, va_recv hKc hPc (ci := 0) (q0 := 0) rfl rfl, kc_pre hG hS hFc hKc hPc hDc⟩ rfl rfl hl.1 rfl (lv_room (Nat.le_of_ble_eq_true rfl)) dX0_appendFour_21 ⟨Nat.le_of_ble_eq_true rfl, Nat.le_of_ble_eq_true rfl⟩) hP hD hS hFc [0, 1] [] rfl rfl (by decide) (by decide) (fun H locs hP hD hS => ?_)
  have hP : va_P (dC, dI) kcl [(h, .inr (0, [.ref ab, .int (nI (rApp (rApp (rApp f n (v.toUInt32 >>> ((24 : Int32).toUInt32 &&& Int32.toUInt32 31)).toInt32).1 (rApp f n (v.toUInt32 >>> ((24 : Int32).toUInt32 &&& Int32.toUInt32 31)).toInt32).2 (v.toUInt32 >>> ((16 : Int32).toUInt32 &&& Int32.toUInt32 31)).toInt32).1 (rApp (rApp f n (v.toUInt32 >>> ((24 : Int32).toUInt32 &&& Int32.toUInt32 31)).toInt32).1 (rApp f n (v.toUInt32 >>> ((24 : Int32).toUInt32 &&& Int32.toUInt32 31)).toInt32).2 (v.toUInt32 >>> ((16 : Int32).toUInt32 &&& Int32.toUInt32 31)).toInt32).2 (v.toUInt32 >>> ((8 : Int32).toUInt32 &&& Int32.toUInt32 31)).toInt32).2)])), (ab, .inl (cB, 242, .inl (rApp (rApp (rApp f n (v.toUInt32 >>> ((24 : Int32).toUInt32 &&& Int32.toUInt32 31)).toInt32).1 (rApp f n (v.toUInt32 >>> ((24 : Int32).toUInt32 &&& Int32.toUInt32 31)).toInt32).2 (v.toUInt32 >>> ((16 : Int32).toUInt32 &&& Int32.toUInt32 31)).toInt32).1 (rApp (rApp f n (v.toUInt32 >>> ((24 : Int32).toUInt32 &&& Int32.toUInt32 31)).toInt32).1 (rApp f n (v.toUInt32 >>> ((24 : Int32).toUInt32 &&& Int32.toUInt32 31)).toInt32).2 (v.toUInt32 >>> ((16 : Int32).toUInt32 &&& Int32.toUInt32 31)).toInt32).2 (v.toUInt32 >>> ((8 : Int32).toUInt32 &&& Int32.toUInt32 31)).toInt32).1))] H := hP
  have hD : va_D A [(h, .inr (0, [.ref ab, .int (nI (rApp (rApp (rApp f n (v.toUInt32 >>> ((24 : Int32).toUInt32 &&& Int32.toUInt32 31)).toInt32).1 (rApp f n (v.toUInt32 >>> ((24 : Int32).toUInt32 &&& Int32.toUInt32 31)).toInt32).2 (v.toUInt32 >>> ((16 : Int32).toUInt32 &&& Int32.toUInt32 31)).toInt32).1 (rApp (rApp f n (v.toUInt32 >>> ((24 : Int32).toUInt32 &&& Int32.toUInt32 31)).toInt32).1 (rApp f n (v.toUInt32 >>> ((24 : Int32).toUInt32 &&& Int32.toUInt32 31)).toInt32).2 (v.toUInt32 >>> ((16 : Int32).toUInt32 &&& Int32.toUInt32 31)).toInt32).2 (v.toUInt32 >>> ((8 : Int32).toUInt32 &&& Int32.toUInt32 31)).toInt32).2)])), (ab, .inl (cB, 242, .inl (rApp (rApp (rApp f n (v.toUInt32 >>> ((24 : Int32).toUInt32 &&& Int32.toUInt32 31)).toInt32).1 (rApp f n (v.toUInt32 >>> ((24 : Int32).toUInt32 &&& Int32.toUInt32 31)).toInt32).2 (v.toUInt32 >>> ((16 : Int32).toUInt32 &&& Int32.toUInt32 31)).toInt32).1 (rApp (rApp f n (v.toUInt32 >>> ((24 : Int32).toUInt32 &&& Int32.toUInt32 31)).toInt32).1 (rApp f n (v.toUInt32 >>> ((24 : Int32).toUInt32 &&& Int32.toUInt32 31)).toInt32).2 (v.toUInt32 >>> ((16 : Int32).toUInt32 &&& Int32.toUInt32 31)).toInt32).2 (v.toUInt32 >>> ((8 : Int32).toUInt32 &&& Int32.toUInt32 31)).toInt32).1))] := hD
  refine lv_aload_n hx hb dX0_appendFour_24 rfl (lv_at hl 0 rfl) ?_
  refine lv_iload_n hx hb dX0_appendFour_25 rfl (lv_at hl 1 rfl) ?_
  have hPc := hP.sub (ws' := [(h, .inr (0, [.ref ab, .int (nI (rApp (rApp (rApp f n (v.toUInt32 >>> ((24 : Int32).toUInt32 &&& Int32.toUInt32 31)).toInt32).1 (rApp f n (v.toUInt32 >>> ((24 : Int32).toUInt32 &&& Int32.toUInt32 31)).toInt32).2 (v.toUInt32 >>> ((16 : Int32).toUInt32 &&& Int32.toUInt32 31)).toInt32).1 (rApp (rApp f n (v.toUInt32 >>> ((24 : Int32).toUInt32 &&& Int32.toUInt32 31)).toInt32).1 (rApp f n (v.toUInt32 >>> ((24 : Int32).toUInt32 &&& Int32.toUInt32 31)).toInt32).2 (v.toUInt32 >>> ((16 : Int32).toUInt32 &&& Int32.toUInt32 31)).toInt32).2 (v.toUInt32 >>> ((8 : Int32).toUInt32 &&& Int32.toUInt32 31)).toInt32).2)])), (ab, .inl (cB, 242, .inl (rApp (rApp (rApp f n (v.toUInt32 >>> ((24 : Int32).toUInt32 &&& Int32.toUInt32 31)).toInt32).1 (rApp f n (v.toUInt32 >>> ((24 : Int32).toUInt32 &&& Int32.toUInt32 31)).toInt32).2 (v.toUInt32 >>> ((16 : Int32).toUInt32 &&& Int32.toUInt32 31)).toInt32).1 (rApp (rApp f n (v.toUInt32 >>> ((24 : Int32).toUInt32 &&& Int32.toUInt32 31)).toInt32).1 (rApp f n (v.toUInt32 >>> ((24 : Int32).toUInt32 &&& Int32.toUInt32 31)).toInt32).2 (v.toUInt32 >>> ((16 : Int32).toUInt32 &&& Int32.toUInt32 31)).toInt32).2 (v.toUInt32 >>> ((8 : Int32).toUInt32 &&& Int32.toUInt32 31)).toInt32).1))]) [0, 1] rfl
  have hDc := hD.sub (ws' := [(h, .inr (0, [.ref ab, .int (nI (rApp (rApp (rApp f n (v.toUInt32 >>> ((24 : Int32).toUInt32 &&& Int32.toUInt32 31)).toInt32).1 (rApp f n (v.toUInt32 >>> ((24 : Int32).toUInt32 &&& Int32.toUInt32 31)).toInt32).2 (v.toUInt32 >>> ((16 : Int32).toUInt32 &&& Int32.toUInt32 31)).toInt32).1 (rApp (rApp f n (v.toUInt32 >>> ((24 : Int32).toUInt32 &&& Int32.toUInt32 31)).toInt32).1 (rApp f n (v.toUInt32 >>> ((24 : Int32).toUInt32 &&& Int32.toUInt32 31)).toInt32).2 (v.toUInt32 >>> ((16 : Int32).toUInt32 &&& Int32.toUInt32 31)).toInt32).2 (v.toUInt32 >>> ((8 : Int32).toUInt32 &&& Int32.toUInt32 31)).toInt32).2)])), (ab, .inl (cB, 242, .inl (rApp (rApp (rApp f n (v.toUInt32 >>> ((24 : Int32).toUInt32 &&& Int32.toUInt32 31)).toInt32).1 (rApp f n (v.toUInt32 >>> ((24 : Int32).toUInt32 &&& Int32.toUInt32 31)).toInt32).2 (v.toUInt32 >>> ((16 : Int32).toUInt32 &&& Int32.toUInt32 31)).toInt32).1 (rApp (rApp f n (v.toUInt32 >>> ((24 : Int32).toUInt32 &&& Int32.toUInt32 31)).toInt32).1 (rApp f n (v.toUInt32 >>> ((24 : Int32).toUInt32 &&& Int32.toUInt32 31)).toInt32).2 (v.toUInt32 >>> ((16 : Int32).toUInt32 &&& Int32.toUInt32 31)).toInt32).2 (v.toUInt32 >>> ((8 : Int32).toUInt32 &&& Int32.toUInt32 31)).toInt32).1))]) [0, 1] (by decide) rfl
  have hKc := hK.sub (tys' := [(cB, .byte)]) [0] rfl
  have hFc := va_free (wc := [(h, .inr (0, [.ref ab, .int (nI (rApp (rApp (rApp f n (v.toUInt32 >>> ((24 : Int32).toUInt32 &&& Int32.toUInt32 31)).toInt32).1 (rApp f n (v.toUInt32 >>> ((24 : Int32).toUInt32 &&& Int32.toUInt32 31)).toInt32).2 (v.toUInt32 >>> ((16 : Int32).toUInt32 &&& Int32.toUInt32 31)).toInt32).1 (rApp (rApp f n (v.toUInt32 >>> ((24 : Int32).toUInt32 &&& Int32.toUInt32 31)).toInt32).1 (rApp f n (v.toUInt32 >>> ((24 : Int32).toUInt32 &&& Int32.toUInt32 31)).toInt32).2 (v.toUInt32 >>> ((16 : Int32).toUInt32 &&& Int32.toUInt32 31)).toInt32).2 (v.toUInt32 >>> ((8 : Int32).toUInt32 &&& Int32.toUInt32 31)).toInt32).2)])), (ab, .inl (cB, 242, .inl (rApp (rApp (rApp f n (v.toUInt32 >>> ((24 : Int32).toUInt32 &&& Int32.toUInt32 31)).toInt32).1 (rApp f n (v.toUInt32 >>> ((24 : Int32).toUInt32 &&& Int32.toUInt32 31)).toInt32).2 (v.toUInt32 >>> ((16 : Int32).toUInt32 &&& Int32.toUInt32 31)).toInt32).1 (rApp (rApp f n (v.toUInt32 >>> ((24 : Int32).toUInt32 &&& Int32.toUInt32 31)).toInt32).1 (rApp f n (v.toUInt32 >>> ((24 : Int32).toUInt32 &&& Int32.toUInt32 31)).toInt32).2 (v.toUInt32 >>> ((16 : Int32).toUInt32 &&& Int32.toUInt32 31)).toInt32).2 (v.toUInt32 >>> ((8 : Int32).toUInt32 &&& Int32.toUInt32 31)).toInt32).1))]) hD hS hA [0, 1] rfl
  refine kc_callv (wr := []) (w1 := [(h, .inr (0, [.ref ab, .int (nI (rApp (rApp (rApp (rApp f n (v.toUInt32 >>> ((24 : Int32).toUInt32 &&& Int32.toUInt32 31)).toInt32).1 (rApp f n (v.toUInt32 >>> ((24 : Int32).toUInt32 &&& Int32.toUInt32 31)).toInt32).2 (v.toUInt32 >>> ((16 : Int32).toUInt32 &&& Int32.toUInt32 31)).toInt32).1 (rApp (rApp f n (v.toUInt32 >>> ((24 : Int32).toUInt32 &&& Int32.toUInt32 31)).toInt32).1 (rApp f n (v.toUInt32 >>> ((24 : Int32).toUInt32 &&& Int32.toUInt32 31)).toInt32).2 (v.toUInt32 >>> ((16 : Int32).toUInt32 &&& Int32.toUInt32 31)).toInt32).2 (v.toUInt32 >>> ((8 : Int32).toUInt32 &&& Int32.toUInt32 31)).toInt32).1 (rApp (rApp (rApp f n (v.toUInt32 >>> ((24 : Int32).toUInt32 &&& Int32.toUInt32 31)).toInt32).1 (rApp f n (v.toUInt32 >>> ((24 : Int32).toUInt32 &&& Int32.toUInt32 31)).toInt32).2 (v.toUInt32 >>> ((16 : Int32).toUInt32 &&& Int32.toUInt32 31)).toInt32).1 (rApp (rApp f n (v.toUInt32 >>> ((24 : Int32).toUInt32 &&& Int32.toUInt32 31)).toInt32).1 (rApp f n (v.toUInt32 >>> ((24 : Int32).toUInt32 &&& Int32.toUInt32 31)).toInt32).2 (v.toUInt32 >>> ((16 : Int32).toUInt32 &&& Int32.toUInt32 31)).toInt32).2 (v.toUInt32 >>> ((8 : Int32).toUInt32 &&& Int32.toUInt32 31)).toInt32).2 v).2)])), (ab, .inl (cB, 242, .inl (rApp (rApp (rApp (rApp f n (v.toUInt32 >>> ((24 : Int32).toUInt32 &&& Int32.toUInt32 31)).toInt32).1 (rApp f n (v.toUInt32 >>> ((24 : Int32).toUInt32 &&& Int32.toUInt32 31)).toInt32).2 (v.toUInt32 >>> ((16 : Int32).toUInt32 &&& Int32.toUInt32 31)).toInt32).1 (rApp (rApp f n (v.toUInt32 >>> ((24 : Int32).toUInt32 &&& Int32.toUInt32 31)).toInt32).1 (rApp f n (v.toUInt32 >>> ((24 : Int32).toUInt32 &&& Int32.toUInt32 31)).toInt32).2 (v.toUInt32 >>> ((16 : Int32).toUInt32 &&& Int32.toUInt32 31)).toInt32).2 (v.toUInt32 >>> ((8 : Int32).toUInt32 &&& Int32.toUInt32 31)).toInt32).1 (rApp (rApp (rApp f n (v.toUInt32 >>> ((24 : Int32).toUInt32 &&& Int32.toUInt32 31)).toInt32).1 (rApp f n (v.toUInt32 >>> ((24 : Int32).toUInt32 &&& Int32.toUInt32 31)).toInt32).2 (v.toUInt32 >>> ((16 : Int32).toUInt32 &&& Int32.toUInt32 31)).toInt32).1 (rApp (rApp f n (v.toUInt32 >>> ((24 : Int32).toUInt32 &&& Int32.toUInt32 31)).toInt32).1 (rApp f n (v.toUInt32 >>> ((24 : Int32).toUInt32 &&& Int32.toUInt32 31)).toInt32).2 (v.toUInt32 >>> ((16 : Int32).toUInt32 &&& Int32.toUInt32 31)).toInt32).2 (v.toUInt32 >>> ((8 : Int32).toUInt32 &&& Int32.toUInt32 31)).toInt32).2 v).1))]) (va_runV (As := [.int v]) (rest := []) ⟨hx, hb, hml, hown, hts⟩ (c_Row_append l dC dI st H.size h ab cB (rApp (rApp (rApp f n (v.toUInt32 >>> ((24 : Int32).toUInt32 &&& Int32.toUInt32 31)).toInt32).1 (rApp f n (v.toUInt32 >>> ((24 : Int32).toUInt32 &&& Int32.toUInt32 31)).toInt32).2 (v.toUInt32 >>> ((16 : Int32).toUInt32 &&& Int32.toUInt32 31)).toInt32).1 (rApp (rApp f n (v.toUInt32 >>> ((24 : Int32).toUInt32 &&& Int32.toUInt32 31)).toInt32).1 (rApp f n (v.toUInt32 >>> ((24 : Int32).toUInt32 &&& Int32.toUInt32 31)).toInt32).2 (v.toUInt32 >>> ((16 : Int32).toUInt32 &&& Int32.toUInt32 31)).toInt32).2 (v.toUInt32 >>> ((8 : Int32).toUInt32 &&& Int32.toUInt32 31)).toInt32).1 (rApp (rApp (rApp f n (v.toUInt32 >>> ((24 : Int32).toUInt32 &&& Int32.toUInt32 31)).toInt32).1 (rApp f n (v.toUInt32 >>> ((24 : Int32).toUInt32 &&& Int32.toUInt32 31)).toInt32).2 (v.toUInt32 >>> ((16 : Int32).toUInt32 &&& Int32.toUInt32 31)).toInt32).1 (rApp (rApp f n (v.toUInt32 >>> ((24 : Int32).toUInt32 &&& Int32.toUInt32 31)).toInt32).1 (rApp f n (v.toUInt32 >>> ((24 : Int32).toUInt32 &&& Int32.toUInt32 31)).toInt32).2 (v.toUInt32 >>> ((16 : Int32).toUInt32 &&& Int32.toUInt32 31)).toInt32).2 (v.toUInt32 >>> ((8 : Int32).toUInt32 &&& Int32.toUInt32 31)).toInt32).2 v (rApp_le (rApp_le (rApp_le hn)))) (cwV 1 hts (kwV kwm_1 kwm_2 kwm_3 kwm_4 kwm_0) rfl rfl rfl (by decide +kernel) ⟨Nat.le_of_ble_eq_true rfl, Nat.le_of_ble_eq_true rfl⟩) ⟨kc_blind, va_recv hKc hPc (ci := 0) (q0 := 0) rfl rfl, kc_pre hG hS hFc hKc hPc hDc⟩ rfl rfl hl.1 rfl (lv_room (Nat.le_of_ble_eq_true rfl)) dX0_appendFour_26 ⟨Nat.le_of_ble_eq_true rfl, Nat.le_of_ble_eq_true rfl⟩) hP hD hS hFc [0, 1] [] rfl rfl (by decide) (by decide) (fun H locs hP hD hS => ?_)
  have hP : va_P (dC, dI) kcl [(h, .inr (0, [.ref ab, .int (nI (rApp (rApp (rApp (rApp f n (v.toUInt32 >>> ((24 : Int32).toUInt32 &&& Int32.toUInt32 31)).toInt32).1 (rApp f n (v.toUInt32 >>> ((24 : Int32).toUInt32 &&& Int32.toUInt32 31)).toInt32).2 (v.toUInt32 >>> ((16 : Int32).toUInt32 &&& Int32.toUInt32 31)).toInt32).1 (rApp (rApp f n (v.toUInt32 >>> ((24 : Int32).toUInt32 &&& Int32.toUInt32 31)).toInt32).1 (rApp f n (v.toUInt32 >>> ((24 : Int32).toUInt32 &&& Int32.toUInt32 31)).toInt32).2 (v.toUInt32 >>> ((16 : Int32).toUInt32 &&& Int32.toUInt32 31)).toInt32).2 (v.toUInt32 >>> ((8 : Int32).toUInt32 &&& Int32.toUInt32 31)).toInt32).1 (rApp (rApp (rApp f n (v.toUInt32 >>> ((24 : Int32).toUInt32 &&& Int32.toUInt32 31)).toInt32).1 (rApp f n (v.toUInt32 >>> ((24 : Int32).toUInt32 &&& Int32.toUInt32 31)).toInt32).2 (v.toUInt32 >>> ((16 : Int32).toUInt32 &&& Int32.toUInt32 31)).toInt32).1 (rApp (rApp f n (v.toUInt32 >>> ((24 : Int32).toUInt32 &&& Int32.toUInt32 31)).toInt32).1 (rApp f n (v.toUInt32 >>> ((24 : Int32).toUInt32 &&& Int32.toUInt32 31)).toInt32).2 (v.toUInt32 >>> ((16 : Int32).toUInt32 &&& Int32.toUInt32 31)).toInt32).2 (v.toUInt32 >>> ((8 : Int32).toUInt32 &&& Int32.toUInt32 31)).toInt32).2 v).2)])), (ab, .inl (cB, 242, .inl (rApp (rApp (rApp (rApp f n (v.toUInt32 >>> ((24 : Int32).toUInt32 &&& Int32.toUInt32 31)).toInt32).1 (rApp f n (v.toUInt32 >>> ((24 : Int32).toUInt32 &&& Int32.toUInt32 31)).toInt32).2 (v.toUInt32 >>> ((16 : Int32).toUInt32 &&& Int32.toUInt32 31)).toInt32).1 (rApp (rApp f n (v.toUInt32 >>> ((24 : Int32).toUInt32 &&& Int32.toUInt32 31)).toInt32).1 (rApp f n (v.toUInt32 >>> ((24 : Int32).toUInt32 &&& Int32.toUInt32 31)).toInt32).2 (v.toUInt32 >>> ((16 : Int32).toUInt32 &&& Int32.toUInt32 31)).toInt32).2 (v.toUInt32 >>> ((8 : Int32).toUInt32 &&& Int32.toUInt32 31)).toInt32).1 (rApp (rApp (rApp f n (v.toUInt32 >>> ((24 : Int32).toUInt32 &&& Int32.toUInt32 31)).toInt32).1 (rApp f n (v.toUInt32 >>> ((24 : Int32).toUInt32 &&& Int32.toUInt32 31)).toInt32).2 (v.toUInt32 >>> ((16 : Int32).toUInt32 &&& Int32.toUInt32 31)).toInt32).1 (rApp (rApp f n (v.toUInt32 >>> ((24 : Int32).toUInt32 &&& Int32.toUInt32 31)).toInt32).1 (rApp f n (v.toUInt32 >>> ((24 : Int32).toUInt32 &&& Int32.toUInt32 31)).toInt32).2 (v.toUInt32 >>> ((16 : Int32).toUInt32 &&& Int32.toUInt32 31)).toInt32).2 (v.toUInt32 >>> ((8 : Int32).toUInt32 &&& Int32.toUInt32 31)).toInt32).2 v).1))] H := hP
  have hD : va_D A [(h, .inr (0, [.ref ab, .int (nI (rApp (rApp (rApp (rApp f n (v.toUInt32 >>> ((24 : Int32).toUInt32 &&& Int32.toUInt32 31)).toInt32).1 (rApp f n (v.toUInt32 >>> ((24 : Int32).toUInt32 &&& Int32.toUInt32 31)).toInt32).2 (v.toUInt32 >>> ((16 : Int32).toUInt32 &&& Int32.toUInt32 31)).toInt32).1 (rApp (rApp f n (v.toUInt32 >>> ((24 : Int32).toUInt32 &&& Int32.toUInt32 31)).toInt32).1 (rApp f n (v.toUInt32 >>> ((24 : Int32).toUInt32 &&& Int32.toUInt32 31)).toInt32).2 (v.toUInt32 >>> ((16 : Int32).toUInt32 &&& Int32.toUInt32 31)).toInt32).2 (v.toUInt32 >>> ((8 : Int32).toUInt32 &&& Int32.toUInt32 31)).toInt32).1 (rApp (rApp (rApp f n (v.toUInt32 >>> ((24 : Int32).toUInt32 &&& Int32.toUInt32 31)).toInt32).1 (rApp f n (v.toUInt32 >>> ((24 : Int32).toUInt32 &&& Int32.toUInt32 31)).toInt32).2 (v.toUInt32 >>> ((16 : Int32).toUInt32 &&& Int32.toUInt32 31)).toInt32).1 (rApp (rApp f n (v.toUInt32 >>> ((24 : Int32).toUInt32 &&& Int32.toUInt32 31)).toInt32).1 (rApp f n (v.toUInt32 >>> ((24 : Int32).toUInt32 &&& Int32.toUInt32 31)).toInt32).2 (v.toUInt32 >>> ((16 : Int32).toUInt32 &&& Int32.toUInt32 31)).toInt32).2 (v.toUInt32 >>> ((8 : Int32).toUInt32 &&& Int32.toUInt32 31)).toInt32).2 v).2)])), (ab, .inl (cB, 242, .inl (rApp (rApp (rApp (rApp f n (v.toUInt32 >>> ((24 : Int32).toUInt32 &&& Int32.toUInt32 31)).toInt32).1 (rApp f n (v.toUInt32 >>> ((24 : Int32).toUInt32 &&& Int32.toUInt32 31)).toInt32).2 (v.toUInt32 >>> ((16 : Int32).toUInt32 &&& Int32.toUInt32 31)).toInt32).1 (rApp (rApp f n (v.toUInt32 >>> ((24 : Int32).toUInt32 &&& Int32.toUInt32 31)).toInt32).1 (rApp f n (v.toUInt32 >>> ((24 : Int32).toUInt32 &&& Int32.toUInt32 31)).toInt32).2 (v.toUInt32 >>> ((16 : Int32).toUInt32 &&& Int32.toUInt32 31)).toInt32).2 (v.toUInt32 >>> ((8 : Int32).toUInt32 &&& Int32.toUInt32 31)).toInt32).1 (rApp (rApp (rApp f n (v.toUInt32 >>> ((24 : Int32).toUInt32 &&& Int32.toUInt32 31)).toInt32).1 (rApp f n (v.toUInt32 >>> ((24 : Int32).toUInt32 &&& Int32.toUInt32 31)).toInt32).2 (v.toUInt32 >>> ((16 : Int32).toUInt32 &&& Int32.toUInt32 31)).toInt32).1 (rApp (rApp f n (v.toUInt32 >>> ((24 : Int32).toUInt32 &&& Int32.toUInt32 31)).toInt32).1 (rApp f n (v.toUInt32 >>> ((24 : Int32).toUInt32 &&& Int32.toUInt32 31)).toInt32).2 (v.toUInt32 >>> ((16 : Int32).toUInt32 &&& Int32.toUInt32 31)).toInt32).2 (v.toUInt32 >>> ((8 : Int32).toUInt32 &&& Int32.toUInt32 31)).toInt32).2 v).1))] := hD
  have hP9 : va_P (dC, dI) kcl [(h, .inr (0, [.ref ab, .int (nI (rFour f n v).2)])), (ab, .inl (cB, 242, .inl (rFour f n v).1))] H := by
    skip
    exact hP.sub [0, 1] rfl
  have hD9 : va_D A [(h, .inr (0, [.ref ab, .int (nI (rFour f n v).2)])), (ab, .inl (cB, 242, .inl (rFour f n v).1))] := by
    skip
    exact hD.sub [0, 1] (by decide) rfl
  exact kc_vret hx hb hr hlocks hP9 hD9 hS dX0_appendFour_29
set_option maxHeartbeats 4000000 in
set_option maxRecDepth 100000 in
theorem c_Row_appendPair (l : Launch) (dC : Nat → ClassId) (dI : Nat → Nat → Nat) (st sz : Nat) (h : Nat) (ab : Nat) (cB : ClassId) (f : Nat → Int32) (n : Nat) (v : Int32) (hn : n ≤ 242) : Met l yX0_appendPair wsX0_appendPair ({ frames := 1, cells := 0, slots := 0, locals := 21 }) (kc_Pc (dC, dI) kcl st sz [.ref h, .int v] [(h, .inr (0, [.ref ab, .int (nI n)])), (ab, .inl (cB, 242, .inl f))] [(cB, .byte)]) (kc_Qv (dC, dI) kcl [(h, .inr (0, [.ref ab, .int (nI (rPair f n v).2)])), (ab, .inl (cB, 242, .inl (rPair f n v).1))] (va_A [(h, .inr (0, [.ref ab, .int (nI n)])), (ab, .inl (cB, 242, .inl f))] sz)) 0 0 (va_A [(h, .inr (0, [.ref ab, .int (nI n)])), (ab, .inl (cB, 242, .inl f))] sz) := by
  refine kc_ofW (Qc := fun A => (kc_Qv (dC, dI) kcl [(h, .inr (0, [.ref ab, .int (nI (rPair f n v).2)])), (ab, .inl (cB, 242, .inl (rPair f n v).1))] A)) (cc := cX0_appendPair) (maxL := 2) (ret := none) (by decide) rfl (Nat.le_of_ble_eq_true rfl) ?_
  intro p e s m below meth c A ls Cx hA hG hK hP hD hS hl
  obtain ⟨hx, hb, hr, hml, hown, hts, hlocks, hnm⟩ := id Cx
  have hl : lv_has ls 2 [(0, .ref h), (1, .int v)] := hl
  refine lv_aload_n hx hb dX0_appendPair_0 rfl (lv_at hl 0 rfl) ?_
  refine lv_bipush (v := 48) hx hb dX0_appendPair_1 (by decide) ?_
  refine lv_iload_n hx hb dX0_appendPair_3 rfl (lv_at hl 1 rfl) ?_
  refine lv_bipush (v := 10) hx hb dX0_appendPair_4 (by decide) ?_
  refine lv_idiv hx hb dX0_appendPair_6 (by decide) ?_
  refine lv_iadd hx hb dX0_appendPair_7 ?_
  have hPc := hP.sub (ws' := [(h, .inr (0, [.ref ab, .int (nI n)])), (ab, .inl (cB, 242, .inl f))]) [0, 1] rfl
  have hDc := hD.sub (ws' := [(h, .inr (0, [.ref ab, .int (nI n)])), (ab, .inl (cB, 242, .inl f))]) [0, 1] (by decide) rfl
  have hKc := hK.sub (tys' := [(cB, .byte)]) [0] rfl
  have hFc := va_free (wc := [(h, .inr (0, [.ref ab, .int (nI n)])), (ab, .inl (cB, 242, .inl f))]) hD hS hA [0, 1] rfl
  refine kc_callv (wr := []) (w1 := [(h, .inr (0, [.ref ab, .int (nI (rApp f n (48 + (v / 10))).2)])), (ab, .inl (cB, 242, .inl (rApp f n (48 + (v / 10))).1))]) (va_runV (As := [.int (48 + (v / 10))]) (rest := []) ⟨hx, hb, hml, hown, hts⟩ (c_Row_append l dC dI st s.heap.size h ab cB f n (48 + (v / 10)) hn) (cwV 1 hts (kwV kwm_1 kwm_2 kwm_3 kwm_4 kwm_0) rfl rfl rfl (by decide +kernel) ⟨Nat.le_of_ble_eq_true rfl, Nat.le_of_ble_eq_true rfl⟩) ⟨kc_blind, va_recv hKc hPc (ci := 0) (q0 := 0) rfl rfl, kc_pre hG hS hFc hKc hPc hDc⟩ rfl rfl hl.1 rfl (lv_room (Nat.le_of_ble_eq_true rfl)) dX0_appendPair_8 ⟨Nat.le_of_ble_eq_true rfl, Nat.le_of_ble_eq_true rfl⟩) hP hD hS hFc [0, 1] [] rfl rfl (by decide) (by decide) (fun H locs hP hD hS => ?_)
  have hP : va_P (dC, dI) kcl [(h, .inr (0, [.ref ab, .int (nI (rApp f n (48 + (v / 10))).2)])), (ab, .inl (cB, 242, .inl (rApp f n (48 + (v / 10))).1))] H := hP
  have hD : va_D A [(h, .inr (0, [.ref ab, .int (nI (rApp f n (48 + (v / 10))).2)])), (ab, .inl (cB, 242, .inl (rApp f n (48 + (v / 10))).1))] := hD
  refine lv_aload_n hx hb dX0_appendPair_11 rfl (lv_at hl 0 rfl) ?_
  refine lv_bipush (v := 48) hx hb dX0_appendPair_12 (by decide) ?_
  refine lv_iload_n hx hb dX0_appendPair_14 rfl (lv_at hl 1 rfl) ?_
  refine lv_bipush (v := 10) hx hb dX0_appendPair_15 (by decide) ?_
  refine lv_irem hx hb dX0_appendPair_17 (by decide) ?_
  refine lv_iadd hx hb dX0_appendPair_18 ?_
  have hPc := hP.sub (ws' := [(h, .inr (0, [.ref ab, .int (nI (rApp f n (48 + (v / 10))).2)])), (ab, .inl (cB, 242, .inl (rApp f n (48 + (v / 10))).1))]) [0, 1] rfl
  have hDc := hD.sub (ws' := [(h, .inr (0, [.ref ab, .int (nI (rApp f n (48 + (v / 10))).2)])), (ab, .inl (cB, 242, .inl (rApp f n (48 + (v / 10))).1))]) [0, 1] (by decide) rfl
  have hKc := hK.sub (tys' := [(cB, .byte)]) [0] rfl
  have hFc := va_free (wc := [(h, .inr (0, [.ref ab, .int (nI (rApp f n (48 + (v / 10))).2)])), (ab, .inl (cB, 242, .inl (rApp f n (48 + (v / 10))).1))]) hD hS hA [0, 1] rfl
  refine kc_callv (wr := []) (w1 := [(h, .inr (0, [.ref ab, .int (nI (rApp (rApp f n (48 + (v / 10))).1 (rApp f n (48 + (v / 10))).2 (48 + (v - v / 10 * 10))).2)])), (ab, .inl (cB, 242, .inl (rApp (rApp f n (48 + (v / 10))).1 (rApp f n (48 + (v / 10))).2 (48 + (v - v / 10 * 10))).1))]) (va_runV (As := [.int (48 + (v - v / 10 * 10))]) (rest := []) ⟨hx, hb, hml, hown, hts⟩ (c_Row_append l dC dI st H.size h ab cB (rApp f n (48 + (v / 10))).1 (rApp f n (48 + (v / 10))).2 (48 + (v - v / 10 * 10)) (rApp_le hn)) (cwV 1 hts (kwV kwm_1 kwm_2 kwm_3 kwm_4 kwm_0) rfl rfl rfl (by decide +kernel) ⟨Nat.le_of_ble_eq_true rfl, Nat.le_of_ble_eq_true rfl⟩) ⟨kc_blind, va_recv hKc hPc (ci := 0) (q0 := 0) rfl rfl, kc_pre hG hS hFc hKc hPc hDc⟩ rfl rfl hl.1 rfl (lv_room (Nat.le_of_ble_eq_true rfl)) dX0_appendPair_19 ⟨Nat.le_of_ble_eq_true rfl, Nat.le_of_ble_eq_true rfl⟩) hP hD hS hFc [0, 1] [] rfl rfl (by decide) (by decide) (fun H locs hP hD hS => ?_)
  have hP : va_P (dC, dI) kcl [(h, .inr (0, [.ref ab, .int (nI (rApp (rApp f n (48 + (v / 10))).1 (rApp f n (48 + (v / 10))).2 (48 + (v - v / 10 * 10))).2)])), (ab, .inl (cB, 242, .inl (rApp (rApp f n (48 + (v / 10))).1 (rApp f n (48 + (v / 10))).2 (48 + (v - v / 10 * 10))).1))] H := hP
  have hD : va_D A [(h, .inr (0, [.ref ab, .int (nI (rApp (rApp f n (48 + (v / 10))).1 (rApp f n (48 + (v / 10))).2 (48 + (v - v / 10 * 10))).2)])), (ab, .inl (cB, 242, .inl (rApp (rApp f n (48 + (v / 10))).1 (rApp f n (48 + (v / 10))).2 (48 + (v - v / 10 * 10))).1))] := hD
  have hP9 : va_P (dC, dI) kcl [(h, .inr (0, [.ref ab, .int (nI (rPair f n v).2)])), (ab, .inl (cB, 242, .inl (rPair f n v).1))] H := by
    skip
    exact hP.sub [0, 1] rfl
  have hD9 : va_D A [(h, .inr (0, [.ref ab, .int (nI (rPair f n v).2)])), (ab, .inl (cB, 242, .inl (rPair f n v).1))] := by
    skip
    exact hD.sub [0, 1] (by decide) rfl
  exact kc_vret hx hb hr hlocks hP9 hD9 hS dX0_appendPair_22
def rByte (f : Nat → Int32) (n : Nat) (i : Int32) : Int32 :=
  if i < 0 then
    (-1)
  else
    if (nI n) ≤ i then
      (-1)
    else
      (f i.toNatClampNeg) &&& 255
set_option maxHeartbeats 4000000 in
set_option maxRecDepth 100000 in
theorem c_Row_byteAt (l : Launch) (dC : Nat → ClassId) (dI : Nat → Nat → Nat) (st sz : Nat) (h : Nat) (ab : Nat) (cB : ClassId) (f : Nat → Int32) (n : Nat) (i : Int32) (hn : n ≤ 242) : Met l yX0_byteAt wsX0_byteAt ({ frames := 0, cells := 0, slots := 0, locals := 0 }) (kc_Pc (dC, dI) kcl st sz [.ref h, .int i] [(h, .inr (0, [.ref ab, .int (nI n)])), (ab, .inl (cB, 242, .inl f))] [(cB, .byte)]) (vp_Si (fun r => r = rByte f n i)) 0 0 (fun _ => False) := by
  refine kc_ofS (cc := cX0_byteAt) (maxL := 2) (ret := (some .int)) (by decide) rfl (Nat.le_of_ble_eq_true rfl) ?_
  intro p e s m below meth c A ls Cx hA hG hK hP hD hS hl
  obtain ⟨hx, hb, hr, hml, hown, hts, hlocks, hnm⟩ := id Cx
  have hl : lv_has ls 2 [(0, .ref h), (1, .int i)] := hl
  refine lv_iload_n hx hb dX0_byteAt_0 rfl (lv_at hl 1 rfl) ?_
  refine lv_if_lt (tgt := 25) hx hb dX0_byteAt_1 (by decide) (fun c_1 => ?_) (fun c_1 => ?_)
  · refine lv_iconst (v := (-1)) hx hb dX0_byteAt_25 (by decide) ?_
    have hF9 : rByte f n i = (-1) := by
      first | (simp only [rByte, if_pos c_1]; done) | rfl
    have hv9 : ((-1) : Int32) = rByte f n i := by
      try rw [hF9]
      try rfl
    exact kc_Siret hx hb hr hlocks hv9 dX0_byteAt_26
  · refine lv_iload_n hx hb dX0_byteAt_4 rfl (lv_at hl 1 rfl) ?_
    refine lv_aload_n hx hb dX0_byteAt_5 rfl (lv_at hl 0 rfl) ?_
    refine va_get (D := (dC, dI)) (ci := 0) (v := .int (nI n)) (C := RX0) (T := TX0) (N := 2) hx hb hts kin_0 hown hK hP 0 rfl rfl 1 (by decide) (hts _ (kcm kwm_9)) (fun _ h9 => h9) rfl dX0_byteAt_6 ?_
    refine lv_icmp_ge (tgt := 25) hx hb dX0_byteAt_9 (by decide) (fun c_9 => ?_) (fun c_9 => ?_)
    · refine lv_iconst (v := (-1)) hx hb dX0_byteAt_25 (by decide) ?_
      have hF9 : rByte f n i = (-1) := by
        first | (simp only [rByte, if_neg c_1, if_pos c_9]; done) | rfl
      have hv9 : ((-1) : Int32) = rByte f n i := by
        try rw [hF9]
        try rfl
      exact kc_Siret hx hb hr hlocks hv9 dX0_byteAt_26
    · refine lv_aload_n hx hb dX0_byteAt_12 rfl (lv_at hl 0 rfl) ?_
      refine va_get (D := (dC, dI)) (ci := 0) (v := .ref ab) (C := RX0) (T := TX0) (N := 2) hx hb hts kin_0 hown hK hP 0 rfl rfl 0 (by decide) (hts _ (kcm kwm_10)) (fun _ h9 => h9) rfl dX0_byteAt_13 ?_
      refine lv_iload_n hx hb dX0_byteAt_16 rfl (lv_at hl 1 rfl) ?_
      refine va_bald hx hb hK hP 1 0 rfl rfl (kb_in c_1 c_9 hn (by decide)) dX0_byteAt_17 ?_
      refine lv_sipush (v := 255) hx hb dX0_byteAt_18 (by decide) ?_
      refine lv_iand hx hb dX0_byteAt_21 ?_
      refine lv_goto (tgt := 26) hx hb dX0_byteAt_22 (by decide) ?_
      have hF9 : rByte f n i = (f i.toNatClampNeg) &&& 255 := by
        first | (simp only [rByte, if_neg c_1, if_neg c_9]; done) | rfl
      have hv9 : (f i.toNatClampNeg) &&& 255 = rByte f n i := by
        try rw [hF9]
        try rfl
      exact kc_Siret hx hb hr hlocks hv9 dX0_byteAt_26
def rDigit (f : Nat → Int32) (n : Nat) (i : Int32) : Int32 :=
  if (rByte f n i) < 48 then
    (-1)
  else
    if 57 < (rByte f n i) then
      (-1)
    else
      (rByte f n i) - 48
set_option maxHeartbeats 4000000 in
set_option maxRecDepth 100000 in
theorem c_Row_digitAt (l : Launch) (dC : Nat → ClassId) (dI : Nat → Nat → Nat) (st sz : Nat) (h : Nat) (ab : Nat) (cB : ClassId) (f : Nat → Int32) (n : Nat) (i : Int32) (hn : n ≤ 242) : Met l yX0_digitAt wsX0_digitAt ({ frames := 1, cells := 0, slots := 0, locals := 21 }) (kc_Pc (dC, dI) kcl st sz [.ref h, .int i] [(h, .inr (0, [.ref ab, .int (nI n)])), (ab, .inl (cB, 242, .inl f))] [(cB, .byte)]) (vp_Si (fun r => r = rDigit f n i)) 0 0 (fun _ => False) := by
  refine kc_ofS (cc := cX0_digitAt) (maxL := 3) (ret := (some .int)) (by decide) rfl (Nat.le_of_ble_eq_true rfl) ?_
  intro p e s m below meth c A ls Cx hA hG hK hP hD hS hl
  obtain ⟨hx, hb, hr, hml, hown, hts, hlocks, hnm⟩ := id Cx
  have hl : lv_has ls 3 [(0, .ref h), (1, .int i)] := hl
  refine lv_aload_n hx hb dX0_digitAt_0 rfl (lv_at hl 0 rfl) ?_
  refine lv_iload_n hx hb dX0_digitAt_1 rfl (lv_at hl 1 rfl) ?_
  have hPc := hP.sub (ws' := [(h, .inr (0, [.ref ab, .int (nI n)])), (ab, .inl (cB, 242, .inl f))]) [0, 1] rfl
  have hDc := hD.sub (ws' := [(h, .inr (0, [.ref ab, .int (nI n)])), (ab, .inl (cB, 242, .inl f))]) [0, 1] (by decide) rfl
  have hKc := hK.sub (tys' := [(cB, .byte)]) [0] rfl
  have hFc := va_free (wc := [(h, .inr (0, [.ref ab, .int (nI n)])), (ab, .inl (cB, 242, .inl f))]) hD hS hA [0, 1] rfl
  refine kc_callSi (val := rByte f n i) (va_runV (As := [.int i]) (rest := []) ⟨hx, hb, hml, hown, hts⟩ (c_Row_byteAt l dC dI st s.heap.size h ab cB f n i hn) (cwV 1 hts (kwV kwm_6 kwm_7 kwm_8 kwm_4 kwm_5) rfl rfl rfl (by decide +kernel) ⟨Nat.le_of_ble_eq_true rfl, Nat.le_of_ble_eq_true rfl⟩) ⟨kc_blind, va_recv hKc hPc (ci := 0) (q0 := 0) rfl rfl, kc_pre hG hS hFc hKc hPc hDc⟩ rfl rfl hl.1 rfl (lv_room (Nat.le_of_ble_eq_true rfl)) dX0_digitAt_2 ⟨Nat.le_of_ble_eq_true rfl, Nat.le_of_ble_eq_true rfl⟩) ?_
  refine lv_istore_n (lv' := [(2, .int (rByte f n i)), (0, .ref h), (1, .int i)]) hx hb dX0_digitAt_5 rfl hl (by decide) rfl (fun ls hl => ?_)
  refine lv_iload_n hx hb dX0_digitAt_6 rfl (lv_at hl 0 rfl) ?_
  refine lv_bipush (v := 48) hx hb dX0_digitAt_7 (by decide) ?_
  refine lv_icmp_lt (tgt := 25) hx hb dX0_digitAt_9 (by decide) (fun c_9 => ?_) (fun c_9 => ?_)
  · refine lv_iconst (v := (-1)) hx hb dX0_digitAt_25 (by decide) ?_
    have hF9 : rDigit f n i = (-1) := by
      first | (simp only [rDigit, if_pos c_9]; done) | rfl
    have hv9 : ((-1) : Int32) = rDigit f n i := by
      try rw [hF9]
      try rfl
    exact kc_Siret hx hb hr hlocks hv9 dX0_digitAt_26
  · refine lv_iload_n hx hb dX0_digitAt_12 rfl (lv_at hl 0 rfl) ?_
    refine lv_bipush (v := 57) hx hb dX0_digitAt_13 (by decide) ?_
    refine lv_icmp_gt (tgt := 25) hx hb dX0_digitAt_15 (by decide) (fun c_15 => ?_) (fun c_15 => ?_)
    · refine lv_iconst (v := (-1)) hx hb dX0_digitAt_25 (by decide) ?_
      have hF9 : rDigit f n i = (-1) := by
        first | (simp only [rDigit, if_neg c_9, if_pos c_15]; done) | rfl
      have hv9 : ((-1) : Int32) = rDigit f n i := by
        try rw [hF9]
        try rfl
      exact kc_Siret hx hb hr hlocks hv9 dX0_digitAt_26
    · refine lv_iload_n hx hb dX0_digitAt_18 rfl (lv_at hl 0 rfl) ?_
      refine lv_bipush (v := 48) hx hb dX0_digitAt_19 (by decide) ?_
      refine lv_isub hx hb dX0_digitAt_21 ?_
      refine lv_goto (tgt := 26) hx hb dX0_digitAt_22 (by decide) ?_
      have hF9 : rDigit f n i = (rByte f n i) - 48 := by
        first | (simp only [rDigit, if_neg c_9, if_neg c_15]; done) | rfl
      have hv9 : (rByte f n i) - 48 = rDigit f n i := by
        try rw [hF9]
        try rfl
      exact kc_Siret hx hb hr hlocks hv9 dX0_digitAt_26
