def fdR (ft : Nat → Int32) (nt : Nat) (p1 p2 p3 p4 : Int32) : Nat × Int32 × (Nat → Int32) × Nat :=
  if (nI (nt + 16)) ≤ 240 then
    let v_31 := rFour ft nt p1
    let v_39 := rFour v_31.1 v_31.2 p2
    let v_47 := rFour v_39.1 v_39.2 p3
    let v_56 := rFour v_47.1 v_47.2 p4
    (0, nI v_56.2, v_56.1, v_56.2)
  else
    (1, 0, ft, nt)
set_option maxHeartbeats 4000000 in
set_option maxRecDepth 100000 in
theorem c_CT_feed (l : Launch) (hl9 : l.stackTraces = false) (dC : Nat → ClassId) (dI : Nat → Nat → Nat) (st sz : Nat) (x : Nat) (t0 : Nat) (w0 : Nat) (r0 : Nat) (m0 : Nat) (k0 : Nat) (tt : Bool) (lf : Int32) (tb : Nat) (cT : ClassId) (ft : Nat → Int32) (nt : Nat) (p1 : Int32) (p2 : Int32) (p3 : Int32) (p4 : Int32) (ht : nt ≤ 242) : vx_Met l yX4_feed wsX4_feed ({ frames := 6, cells := 1, slots := 6, locals := 90 }) (kc_Pc (dC, dI) kcl st sz [.ref x, .int p1, .int p2, .int p3, .int p4] [(x, .inr (4, [.ref t0, .ref w0, .ref r0, .ref m0, .ref k0, .int (bI tt), .int lf])), (t0, .inr (0, [.ref tb, .int (nI nt)])), (tb, .inl (cT, 242, .inl ft))] [(cT, .byte)]) (kx_Qi (dC, dI) kcl (fdR ft nt p1 p2 p3 p4).1 (fdR ft nt p1 p2 p3 p4).2.1 [(x, .inr (4, [.ref t0, .ref w0, .ref r0, .ref m0, .ref k0, .int (bI tt), .int lf])), (t0, .inr (0, [.ref tb, .int (nI (fdR ft nt p1 p2 p3 p4).2.2.2)])), (tb, .inl (cT, 242, .inl (fdR ft nt p1 p2 p3 p4).2.2.1))] (va_A [(x, .inr (4, [.ref t0, .ref w0, .ref r0, .ref m0, .ref k0, .int (bI tt), .int lf])), (t0, .inr (0, [.ref tb, .int (nI nt)])), (tb, .inl (cT, 242, .inl ft))] sz)) (kx_X (dC, dI) kcl (fdR ft nt p1 p2 p3 p4).1 [(x, .inr (4, [.ref t0, .ref w0, .ref r0, .ref m0, .ref k0, .int (bI tt), .int lf])), (t0, .inr (0, [.ref tb, .int (nI (fdR ft nt p1 p2 p3 p4).2.2.2)])), (tb, .inl (cT, 242, .inl (fdR ft nt p1 p2 p3 p4).2.2.1))] (va_A [(x, .inr (4, [.ref t0, .ref w0, .ref r0, .ref m0, .ref k0, .int (bI tt), .int lf])), (t0, .inr (0, [.ref tb, .int (nI nt)])), (tb, .inl (cT, 242, .inl ft))] sz)) 1 6 (va_A [(x, .inr (4, [.ref t0, .ref w0, .ref r0, .ref m0, .ref k0, .int (bI tt), .int lf])), (t0, .inr (0, [.ref tb, .int (nI nt)])), (tb, .inl (cT, 242, .inl ft))] sz) := by
  refine kx_ofW (Qc := fun A => (kx_Qi (dC, dI) kcl (fdR ft nt p1 p2 p3 p4).1 (fdR ft nt p1 p2 p3 p4).2.1 [(x, .inr (4, [.ref t0, .ref w0, .ref r0, .ref m0, .ref k0, .int (bI tt), .int lf])), (t0, .inr (0, [.ref tb, .int (nI (fdR ft nt p1 p2 p3 p4).2.2.2)])), (tb, .inl (cT, 242, .inl (fdR ft nt p1 p2 p3 p4).2.2.1))] A)) (XC := fun A => kx_X (dC, dI) kcl (fdR ft nt p1 p2 p3 p4).1 [(x, .inr (4, [.ref t0, .ref w0, .ref r0, .ref m0, .ref k0, .int (bI tt), .int lf])), (t0, .inr (0, [.ref tb, .int (nI (fdR ft nt p1 p2 p3 p4).2.2.2)])), (tb, .inl (cT, 242, .inl (fdR ft nt p1 p2 p3 p4).2.2.1))] A) (cc := cX4_feed) (maxL := 5) (ret := (some .int)) (by decide) rfl (Nat.le_of_ble_eq_true rfl) ?_
  intro p e s m below meth c A ls Cx hex hA hG hK hP hD hS hl
  obtain ⟨hx, hb, hr, hml, hown, hts, hlocks, hnm⟩ := id Cx
  have hl : lv_has ls 5 [(0, .ref x), (1, .int p1), (2, .int p2), (3, .int p3), (4, .int p4)] := hl
  refine lv_aload_n hx hb dX4_feed_0 rfl (lv_at hl 0 rfl) ?_
  refine va_get (D := (dC, dI)) (ci := 4) (v := .ref t0) (C := RX4) (T := TX4) (N := 7) hx hb hts kin_4 hown hK hP 0 rfl rfl 0 (by decide) (hts _ (kcm kwm_133)) (fun _ h9 => h9) rfl dX4_feed_1 ?_
  refine va_getN (D := (dC, dI)) (ci := 0) (v := .int (nI nt)) (C := RX0) (T := TX0) (N := 2) hx hb hts kin_0 hown hK hP 1 rfl rfl 1 (by decide) (kg_use hG (List.mem_of_getElem? (i := 14) (a := Cond.fieldLinkNest RX4 48 "ClockTexts$ByteRow" "length" "I" "ClockTexts") rfl)) (fun _ h9 => h9) rfl dX4_feed_4 ?_
  refine lv_bipush (v := 16) hx hb dX4_feed_7 (by decide) ?_
  refine lv_iadd hx hb dX4_feed_9 ?_
  rw [show (nI nt) + 16 = nI (nt + 16) from nI_add nt 16]
  refine lv_sipush (v := 240) hx hb dX4_feed_10 (by decide) ?_
  refine lv_icmp_le (tgt := 26) hx hb dX4_feed_13 (by decide) (fun c_13 => ?_) (fun c_13 => ?_)
  · refine lv_aload_n hx hb dX4_feed_26 rfl (lv_at hl 0 rfl) ?_
    refine va_get (D := (dC, dI)) (ci := 4) (v := .ref t0) (C := RX4) (T := TX4) (N := 7) hx hb hts kin_4 hown hK hP 0 rfl rfl 0 (by decide) (hts _ (kcm kwm_133)) (fun _ h9 => h9) rfl dX4_feed_27 ?_
    refine lv_iload_n hx hb dX4_feed_30 rfl (lv_at hl 1 rfl) ?_
    have hPc := hP.sub (ws' := [(t0, .inr (0, [.ref tb, .int (nI nt)])), (tb, .inl (cT, 242, .inl ft))]) [1, 2] rfl
    have hDc := hD.sub (ws' := [(t0, .inr (0, [.ref tb, .int (nI nt)])), (tb, .inl (cT, 242, .inl ft))]) [1, 2] (by decide) rfl
    have hKc := hK.sub (tys' := [(cT, .byte)]) [0] rfl
    have hFc := va_free (wc := [(t0, .inr (0, [.ref tb, .int (nI nt)])), (tb, .inl (cT, 242, .inl ft))]) hD hS hA [1, 2] rfl
    refine kc_callv (wr := [(x, .inr (4, [.ref t0, .ref w0, .ref r0, .ref m0, .ref k0, .int (bI tt), .int lf]))]) (w1 := [(t0, .inr (0, [.ref tb, .int (nI (rFour ft nt p1).2)])), (tb, .inl (cT, 242, .inl (rFour ft nt p1).1))]) (va_runV (As := [.int p1]) (rest := []) ⟨hx, hb, hml, hown, hts⟩ (c_Row_appendFour l dC dI st s.heap.size t0 tb cT ft nt p1 ht) (cwV 1 hts (kwV kwm_167 kwm_168 kwm_169 kwm_4 kwm_166) rfl rfl rfl (by decide +kernel) ⟨Nat.le_of_ble_eq_true rfl, Nat.le_of_ble_eq_true rfl⟩) ⟨kc_blind, va_recv hKc hPc (ci := 0) (q0 := 0) rfl rfl, kc_pre hG hS hFc hKc hPc hDc⟩ rfl rfl hl.1 rfl (lv_room (Nat.le_of_ble_eq_true rfl)) dX4_feed_31 ⟨Nat.le_of_ble_eq_true rfl, Nat.le_of_ble_eq_true rfl⟩) hP hD hS hFc [1, 2] [0] rfl rfl (by decide) (by decide) (fun H locs hP hD hS => ?_)
    have hP : va_P (dC, dI) kcl [(x, .inr (4, [.ref t0, .ref w0, .ref r0, .ref m0, .ref k0, .int (bI tt), .int lf])), (t0, .inr (0, [.ref tb, .int (nI (rFour ft nt p1).2)])), (tb, .inl (cT, 242, .inl (rFour ft nt p1).1))] H := hP
    have hD : va_D A [(x, .inr (4, [.ref t0, .ref w0, .ref r0, .ref m0, .ref k0, .int (bI tt), .int lf])), (t0, .inr (0, [.ref tb, .int (nI (rFour ft nt p1).2)])), (tb, .inl (cT, 242, .inl (rFour ft nt p1).1))] := hD
    generalize e_31 : rFour ft nt p1 = v_31 at hP hD ⊢
    have hP : va_P (dC, dI) kcl [(x, .inr (4, [.ref t0, .ref w0, .ref r0, .ref m0, .ref k0, .int (bI tt), .int lf])), (t0, .inr (0, [.ref tb, .int (nI v_31.2)])), (tb, .inl (cT, 242, .inl v_31.1))] H := hP
    have hD : va_D A [(x, .inr (4, [.ref t0, .ref w0, .ref r0, .ref m0, .ref k0, .int (bI tt), .int lf])), (t0, .inr (0, [.ref tb, .int (nI v_31.2)])), (tb, .inl (cT, 242, .inl v_31.1))] := hD
    refine lv_aload_n hx hb dX4_feed_34 rfl (lv_at hl 0 rfl) ?_
    refine va_get (D := (dC, dI)) (ci := 4) (v := .ref t0) (C := RX4) (T := TX4) (N := 7) hx hb hts kin_4 hown hK hP 0 rfl rfl 0 (by decide) (hts _ (kcm kwm_133)) (fun _ h9 => h9) rfl dX4_feed_35 ?_
    refine lv_iload_n hx hb dX4_feed_38 rfl (lv_at hl 2 rfl) ?_
    have hPc := hP.sub (ws' := [(t0, .inr (0, [.ref tb, .int (nI v_31.2)])), (tb, .inl (cT, 242, .inl v_31.1))]) [1, 2] rfl
    have hDc := hD.sub (ws' := [(t0, .inr (0, [.ref tb, .int (nI v_31.2)])), (tb, .inl (cT, 242, .inl v_31.1))]) [1, 2] (by decide) rfl
    have hKc := hK.sub (tys' := [(cT, .byte)]) [0] rfl
    have hFc := va_free (wc := [(t0, .inr (0, [.ref tb, .int (nI v_31.2)])), (tb, .inl (cT, 242, .inl v_31.1))]) hD hS hA [1, 2] rfl
    refine kc_callv (wr := [(x, .inr (4, [.ref t0, .ref w0, .ref r0, .ref m0, .ref k0, .int (bI tt), .int lf]))]) (w1 := [(t0, .inr (0, [.ref tb, .int (nI (rFour v_31.1 v_31.2 p2).2)])), (tb, .inl (cT, 242, .inl (rFour v_31.1 v_31.2 p2).1))]) (va_runV (As := [.int p2]) (rest := []) ⟨hx, hb, hml, hown, hts⟩ (c_Row_appendFour l dC dI st H.size t0 tb cT v_31.1 v_31.2 p2 (by rw [← e_31]; exact rFour_le ht)) (cwV 1 hts (kwV kwm_167 kwm_168 kwm_169 kwm_4 kwm_166) rfl rfl rfl (by decide +kernel) ⟨Nat.le_of_ble_eq_true rfl, Nat.le_of_ble_eq_true rfl⟩) ⟨kc_blind, va_recv hKc hPc (ci := 0) (q0 := 0) rfl rfl, kc_pre hG hS hFc hKc hPc hDc⟩ rfl rfl hl.1 rfl (lv_room (Nat.le_of_ble_eq_true rfl)) dX4_feed_39 ⟨Nat.le_of_ble_eq_true rfl, Nat.le_of_ble_eq_true rfl⟩) hP hD hS hFc [1, 2] [0] rfl rfl (by decide) (by decide) (fun H locs hP hD hS => ?_)
    have hP : va_P (dC, dI) kcl [(x, .inr (4, [.ref t0, .ref w0, .ref r0, .ref m0, .ref k0, .int (bI tt), .int lf])), (t0, .inr (0, [.ref tb, .int (nI (rFour v_31.1 v_31.2 p2).2)])), (tb, .inl (cT, 242, .inl (rFour v_31.1 v_31.2 p2).1))] H := hP
    have hD : va_D A [(x, .inr (4, [.ref t0, .ref w0, .ref r0, .ref m0, .ref k0, .int (bI tt), .int lf])), (t0, .inr (0, [.ref tb, .int (nI (rFour v_31.1 v_31.2 p2).2)])), (tb, .inl (cT, 242, .inl (rFour v_31.1 v_31.2 p2).1))] := hD
    generalize e_39 : rFour v_31.1 v_31.2 p2 = v_39 at hP hD ⊢
    have hP : va_P (dC, dI) kcl [(x, .inr (4, [.ref t0, .ref w0, .ref r0, .ref m0, .ref k0, .int (bI tt), .int lf])), (t0, .inr (0, [.ref tb, .int (nI v_39.2)])), (tb, .inl (cT, 242, .inl v_39.1))] H := hP
    have hD : va_D A [(x, .inr (4, [.ref t0, .ref w0, .ref r0, .ref m0, .ref k0, .int (bI tt), .int lf])), (t0, .inr (0, [.ref tb, .int (nI v_39.2)])), (tb, .inl (cT, 242, .inl v_39.1))] := hD
    refine lv_aload_n hx hb dX4_feed_42 rfl (lv_at hl 0 rfl) ?_
    refine va_get (D := (dC, dI)) (ci := 4) (v := .ref t0) (C := RX4) (T := TX4) (N := 7) hx hb hts kin_4 hown hK hP 0 rfl rfl 0 (by decide) (hts _ (kcm kwm_133)) (fun _ h9 => h9) rfl dX4_feed_43 ?_
    refine lv_iload_n hx hb dX4_feed_46 rfl (lv_at hl 3 rfl) ?_
    have hPc := hP.sub (ws' := [(t0, .inr (0, [.ref tb, .int (nI v_39.2)])), (tb, .inl (cT, 242, .inl v_39.1))]) [1, 2] rfl
    have hDc := hD.sub (ws' := [(t0, .inr (0, [.ref tb, .int (nI v_39.2)])), (tb, .inl (cT, 242, .inl v_39.1))]) [1, 2] (by decide) rfl
    have hKc := hK.sub (tys' := [(cT, .byte)]) [0] rfl
    have hFc := va_free (wc := [(t0, .inr (0, [.ref tb, .int (nI v_39.2)])), (tb, .inl (cT, 242, .inl v_39.1))]) hD hS hA [1, 2] rfl
    refine kc_callv (wr := [(x, .inr (4, [.ref t0, .ref w0, .ref r0, .ref m0, .ref k0, .int (bI tt), .int lf]))]) (w1 := [(t0, .inr (0, [.ref tb, .int (nI (rFour v_39.1 v_39.2 p3).2)])), (tb, .inl (cT, 242, .inl (rFour v_39.1 v_39.2 p3).1))]) (va_runV (As := [.int p3]) (rest := []) ⟨hx, hb, hml, hown, hts⟩ (c_Row_appendFour l dC dI st H.size t0 tb cT v_39.1 v_39.2 p3 (by rw [← e_39]; exact rFour_le (by rw [← e_31]; exact rFour_le ht))) (cwV 1 hts (kwV kwm_167 kwm_168 kwm_169 kwm_4 kwm_166) rfl rfl rfl (by decide +kernel) ⟨Nat.le_of_ble_eq_true rfl, Nat.le_of_ble_eq_true rfl⟩) ⟨kc_blind, va_recv hKc hPc (ci := 0) (q0 := 0) rfl rfl, kc_pre hG hS hFc hKc hPc hDc⟩ rfl rfl hl.1 rfl (lv_room (Nat.le_of_ble_eq_true rfl)) dX4_feed_47 ⟨Nat.le_of_ble_eq_true rfl, Nat.le_of_ble_eq_true rfl⟩) hP hD hS hFc [1, 2] [0] rfl rfl (by decide) (by decide) (fun H locs hP hD hS => ?_)
    have hP : va_P (dC, dI) kcl [(x, .inr (4, [.ref t0, .ref w0, .ref r0, .ref m0, .ref k0, .int (bI tt), .int lf])), (t0, .inr (0, [.ref tb, .int (nI (rFour v_39.1 v_39.2 p3).2)])), (tb, .inl (cT, 242, .inl (rFour v_39.1 v_39.2 p3).1))] H := hP
    have hD : va_D A [(x, .inr (4, [.ref t0, .ref w0, .ref r0, .ref m0, .ref k0, .int (bI tt), .int lf])), (t0, .inr (0, [.ref tb, .int (nI (rFour v_39.1 v_39.2 p3).2)])), (tb, .inl (cT, 242, .inl (rFour v_39.1 v_39.2 p3).1))] := hD
    generalize e_47 : rFour v_39.1 v_39.2 p3 = v_47 at hP hD ⊢
    have hP : va_P (dC, dI) kcl [(x, .inr (4, [.ref t0, .ref w0, .ref r0, .ref m0, .ref k0, .int (bI tt), .int lf])), (t0, .inr (0, [.ref tb, .int (nI v_47.2)])), (tb, .inl (cT, 242, .inl v_47.1))] H := hP
    have hD : va_D A [(x, .inr (4, [.ref t0, .ref w0, .ref r0, .ref m0, .ref k0, .int (bI tt), .int lf])), (t0, .inr (0, [.ref tb, .int (nI v_47.2)])), (tb, .inl (cT, 242, .inl v_47.1))] := hD
    refine lv_aload_n hx hb dX4_feed_50 rfl (lv_at hl 0 rfl) ?_
    refine va_get (D := (dC, dI)) (ci := 4) (v := .ref t0) (C := RX4) (T := TX4) (N := 7) hx hb hts kin_4 hown hK hP 0 rfl rfl 0 (by decide) (hts _ (kcm kwm_133)) (fun _ h9 => h9) rfl dX4_feed_51 ?_
    refine lv_iload hx hb dX4_feed_54 (lv_at hl 4 rfl) ?_
    have hPc := hP.sub (ws' := [(t0, .inr (0, [.ref tb, .int (nI v_47.2)])), (tb, .inl (cT, 242, .inl v_47.1))]) [1, 2] rfl
    have hDc := hD.sub (ws' := [(t0, .inr (0, [.ref tb, .int (nI v_47.2)])), (tb, .inl (cT, 242, .inl v_47.1))]) [1, 2] (by decide) rfl
    have hKc := hK.sub (tys' := [(cT, .byte)]) [0] rfl
    have hFc := va_free (wc := [(t0, .inr (0, [.ref tb, .int (nI v_47.2)])), (tb, .inl (cT, 242, .inl v_47.1))]) hD hS hA [1, 2] rfl
    refine kc_callv (wr := [(x, .inr (4, [.ref t0, .ref w0, .ref r0, .ref m0, .ref k0, .int (bI tt), .int lf]))]) (w1 := [(t0, .inr (0, [.ref tb, .int (nI (rFour v_47.1 v_47.2 p4).2)])), (tb, .inl (cT, 242, .inl (rFour v_47.1 v_47.2 p4).1))]) (va_runV (As := [.int p4]) (rest := []) ⟨hx, hb, hml, hown, hts⟩ (c_Row_appendFour l dC dI st H.size t0 tb cT v_47.1 v_47.2 p4 (by rw [← e_47]; exact rFour_le (by rw [← e_39]; exact rFour_le (by rw [← e_31]; exact rFour_le ht)))) (cwV 1 hts (kwV kwm_167 kwm_168 kwm_169 kwm_4 kwm_166) rfl rfl rfl (by decide +kernel) ⟨Nat.le_of_ble_eq_true rfl, Nat.le_of_ble_eq_true rfl⟩) ⟨kc_blind, va_recv hKc hPc (ci := 0) (q0 := 0) rfl rfl, kc_pre hG hS hFc hKc hPc hDc⟩ rfl rfl hl.1 rfl (lv_room (Nat.le_of_ble_eq_true rfl)) dX4_feed_56 ⟨Nat.le_of_ble_eq_true rfl, Nat.le_of_ble_eq_true rfl⟩) hP hD hS hFc [1, 2] [0] rfl rfl (by decide) (by decide) (fun H locs hP hD hS => ?_)
    have hP : va_P (dC, dI) kcl [(x, .inr (4, [.ref t0, .ref w0, .ref r0, .ref m0, .ref k0, .int (bI tt), .int lf])), (t0, .inr (0, [.ref tb, .int (nI (rFour v_47.1 v_47.2 p4).2)])), (tb, .inl (cT, 242, .inl (rFour v_47.1 v_47.2 p4).1))] H := hP
    have hD : va_D A [(x, .inr (4, [.ref t0, .ref w0, .ref r0, .ref m0, .ref k0, .int (bI tt), .int lf])), (t0, .inr (0, [.ref tb, .int (nI (rFour v_47.1 v_47.2 p4).2)])), (tb, .inl (cT, 242, .inl (rFour v_47.1 v_47.2 p4).1))] := hD
    generalize e_56 : rFour v_47.1 v_47.2 p4 = v_56 at hP hD ⊢
    have hP : va_P (dC, dI) kcl [(x, .inr (4, [.ref t0, .ref w0, .ref r0, .ref m0, .ref k0, .int (bI tt), .int lf])), (t0, .inr (0, [.ref tb, .int (nI v_56.2)])), (tb, .inl (cT, 242, .inl v_56.1))] H := hP
    have hD : va_D A [(x, .inr (4, [.ref t0, .ref w0, .ref r0, .ref m0, .ref k0, .int (bI tt), .int lf])), (t0, .inr (0, [.ref tb, .int (nI v_56.2)])), (tb, .inl (cT, 242, .inl v_56.1))] := hD
    refine lv_aload_n hx hb dX4_feed_59 rfl (lv_at hl 0 rfl) ?_
    refine va_get (D := (dC, dI)) (ci := 4) (v := .ref t0) (C := RX4) (T := TX4) (N := 7) hx hb hts kin_4 hown hK hP 0 rfl rfl 0 (by decide) (hts _ (kcm kwm_133)) (fun _ h9 => h9) rfl dX4_feed_60 ?_
    refine va_getN (D := (dC, dI)) (ci := 0) (v := .int (nI v_56.2)) (C := RX0) (T := TX0) (N := 2) hx hb hts kin_0 hown hK hP 1 rfl rfl 1 (by decide) (kg_use hG (List.mem_of_getElem? (i := 14) (a := Cond.fieldLinkNest RX4 48 "ClockTexts$ByteRow" "length" "I" "ClockTexts") rfl)) (fun _ h9 => h9) rfl dX4_feed_63 ?_
    have hF9 : fdR ft nt p1 p2 p3 p4 = (0, nI v_56.2, v_56.1, v_56.2) := by
      subst e_56
      subst e_47
      subst e_39
      subst e_31
      first | (simp only [fdR, if_pos c_13]; done) | rfl
    have hP9 : va_P (dC, dI) kcl [(x, .inr (4, [.ref t0, .ref w0, .ref r0, .ref m0, .ref k0, .int (bI tt), .int lf])), (t0, .inr (0, [.ref tb, .int (nI (fdR ft nt p1 p2 p3 p4).2.2.2)])), (tb, .inl (cT, 242, .inl (fdR ft nt p1 p2 p3 p4).2.2.1))] H := by
      try rw [hF9]
      exact hP.sub [0, 1, 2] rfl
    have hD9 : va_D A [(x, .inr (4, [.ref t0, .ref w0, .ref r0, .ref m0, .ref k0, .int (bI tt), .int lf])), (t0, .inr (0, [.ref tb, .int (nI (fdR ft nt p1 p2 p3 p4).2.2.2)])), (tb, .inl (cT, 242, .inl (fdR ft nt p1 p2 p3 p4).2.2.1))] := by
      try rw [hF9]
      exact hD.sub [0, 1, 2] (by decide) rfl
    have hv9 : nI v_56.2 = (fdR ft nt p1 p2 p3 p4).2.1 := by
      try rw [hF9]
      try rfl
    exact kx_iret hx hb hr hlocks hv9 (by first | rw [hF9] | rfl) hP9 hD9 hS (Nat.le_of_ble_eq_true rfl) (Nat.le_of_ble_eq_true rfl) dX4_feed_66
  · have hF9 : fdR ft nt p1 p2 p3 p4 = (1, 0, ft, nt) := by
      first | (simp only [fdR, if_neg c_13]; done) | rfl
    have hP9 : va_P (dC, dI) kcl [(x, .inr (4, [.ref t0, .ref w0, .ref r0, .ref m0, .ref k0, .int (bI tt), .int lf])), (t0, .inr (0, [.ref tb, .int (nI (fdR ft nt p1 p2 p3 p4).2.2.2)])), (tb, .inl (cT, 242, .inl (fdR ft nt p1 p2 p3 p4).2.2.1))] s.heap := by
      try rw [hF9]
      exact hP.sub [0, 1, 2] rfl
    have hD9 : va_D A [(x, .inr (4, [.ref t0, .ref w0, .ref r0, .ref m0, .ref k0, .int (bI tt), .int lf])), (t0, .inr (0, [.ref tb, .int (nI (fdR ft nt p1 p2 p3 p4).2.2.2)])), (tb, .inl (cT, 242, .inl (fdR ft nt p1 p2 p3 p4).2.2.1))] := by
      try rw [hF9]
      exact hD.sub [0, 1, 2] (by decide) rfl
    obtain ⟨sa9, hsa9⟩ := kg_str hG (List.mem_of_getElem? (i := 0) (a := (RX4, 53, "the text would have more than 240 bytes")) rfl)
    exact vx_throwS (own := RX4) (cls := "java/lang/IllegalStateException") (names := ["java/lang/RuntimeException", "java/lang/Exception"]) hx hb hl9 hown (by decide +kernel) (by decide +kernel) (hts _ (kcm kwm_171)) (hts _ (kcm kwm_172)) hsa9 (kg_hat hG (L := vx_atS RX4 55 "java/lang/IllegalStateException" ["java/lang/RuntimeException", "java/lang/Exception"]) (fun w hw => hts w ((by decide +kernel : ∀ w ∈ (vx_atS RX4 55 "java/lang/IllegalStateException" ["java/lang/RuntimeException", "java/lang/Exception"]).filter goodWord, w ∈ wsX4_feed) w hw)) (by decide +kernel)) (by decide +kernel) (kg_U hG) (kg_V hG) hS (hl.1.trans hml.symm) dX4_feed_16 dX4_feed_19 dX4_feed_20 dX4_feed_22 dX4_feed_25 (fun x h9 => (hex x h9).elim) (Nat.le_of_ble_eq_true rfl) (Nat.le_of_ble_eq_true rfl) (Nat.le_of_ble_eq_true rfl) (Nat.le_of_ble_eq_true rfl) hlocks (kx_made (by rw [hF9]; exact (show (1 : Nat) ≠ 0 by decide)) (by rw [hF9]; rfl) hP9 hD9 hS) hS.2.2 (Nat.le_of_ble_eq_true rfl) (Nat.le_of_ble_eq_true rfl)
def enR (nt : Nat) (p1 : Int32) : Nat × Int32 × Nat :=
  if p1 < 0 then
    (2, 0, nt)
  else
    if p1 ≤ 16 then
      if 16 ≤ (nI nt) then
        (0, nI (nt - 16 + p1.toNatClampNeg), (nt - 16 + p1.toNatClampNeg))
      else
        (1, 0, nt)
    else
      (2, 0, nt)
set_option maxHeartbeats 4000000 in
set_option maxRecDepth 100000 in
theorem c_CT_end (l : Launch) (hl9 : l.stackTraces = false) (dC : Nat → ClassId) (dI : Nat → Nat → Nat) (st sz : Nat) (x : Nat) (t0 : Nat) (w0 : Nat) (r0 : Nat) (m0 : Nat) (k0 : Nat) (tt : Bool) (lf : Int32) (tb : Nat) (cT : ClassId) (ft : Nat → Int32) (nt : Nat) (p1 : Int32) (ht : nt ≤ 242) : vx_Met l yX4_end wsX4_end ({ frames := 6, cells := 1, slots := 6, locals := 90 }) (kc_Pc (dC, dI) kcl st sz [.ref x, .int p1] [(x, .inr (4, [.ref t0, .ref w0, .ref r0, .ref m0, .ref k0, .int (bI tt), .int lf])), (t0, .inr (0, [.ref tb, .int (nI nt)])), (tb, .inl (cT, 242, .inl ft))] [(cT, .byte)]) (kx_Qi (dC, dI) kcl (enR nt p1).1 (enR nt p1).2.1 [(x, .inr (4, [.ref t0, .ref w0, .ref r0, .ref m0, .ref k0, .int (bI tt), .int lf])), (t0, .inr (0, [.ref tb, .int (nI (enR nt p1).2.2)])), (tb, .inl (cT, 242, .inl ft))] (va_A [(x, .inr (4, [.ref t0, .ref w0, .ref r0, .ref m0, .ref k0, .int (bI tt), .int lf])), (t0, .inr (0, [.ref tb, .int (nI nt)])), (tb, .inl (cT, 242, .inl ft))] sz)) (kx_X (dC, dI) kcl (enR nt p1).1 [(x, .inr (4, [.ref t0, .ref w0, .ref r0, .ref m0, .ref k0, .int (bI tt), .int lf])), (t0, .inr (0, [.ref tb, .int (nI (enR nt p1).2.2)])), (tb, .inl (cT, 242, .inl ft))] (va_A [(x, .inr (4, [.ref t0, .ref w0, .ref r0, .ref m0, .ref k0, .int (bI tt), .int lf])), (t0, .inr (0, [.ref tb, .int (nI nt)])), (tb, .inl (cT, 242, .inl ft))] sz)) 1 6 (va_A [(x, .inr (4, [.ref t0, .ref w0, .ref r0, .ref m0, .ref k0, .int (bI tt), .int lf])), (t0, .inr (0, [.ref tb, .int (nI nt)])), (tb, .inl (cT, 242, .inl ft))] sz) := by
  refine kx_ofW (Qc := fun A => (kx_Qi (dC, dI) kcl (enR nt p1).1 (enR nt p1).2.1 [(x, .inr (4, [.ref t0, .ref w0, .ref r0, .ref m0, .ref k0, .int (bI tt), .int lf])), (t0, .inr (0, [.ref tb, .int (nI (enR nt p1).2.2)])), (tb, .inl (cT, 242, .inl ft))] A)) (XC := fun A => kx_X (dC, dI) kcl (enR nt p1).1 [(x, .inr (4, [.ref t0, .ref w0, .ref r0, .ref m0, .ref k0, .int (bI tt), .int lf])), (t0, .inr (0, [.ref tb, .int (nI (enR nt p1).2.2)])), (tb, .inl (cT, 242, .inl ft))] A) (cc := cX4_end) (maxL := 2) (ret := (some .int)) (by decide) rfl (Nat.le_of_ble_eq_true rfl) ?_
  intro p e s m below meth c A ls Cx hex hA hG hK hP hD hS hl
  obtain ⟨hx, hb, hr, hml, hown, hts, hlocks, hnm⟩ := id Cx
  have hl : lv_has ls 2 [(0, .ref x), (1, .int p1)] := hl
  refine lv_iload_n hx hb dX4_end_0 rfl (lv_at hl 1 rfl) ?_
  refine lv_if_lt (tgt := 10) hx hb dX4_end_1 (by decide) (fun c_1 => ?_) (fun c_1 => ?_)
  · have hF9 : enR nt p1 = (2, 0, nt) := by
      first | (simp only [enR, if_pos c_1]; done) | rfl
    have hP9 : va_P (dC, dI) kcl [(x, .inr (4, [.ref t0, .ref w0, .ref r0, .ref m0, .ref k0, .int (bI tt), .int lf])), (t0, .inr (0, [.ref tb, .int (nI (enR nt p1).2.2)])), (tb, .inl (cT, 242, .inl ft))] s.heap := by
      try rw [hF9]
      exact hP.sub [0, 1, 2] rfl
    have hD9 : va_D A [(x, .inr (4, [.ref t0, .ref w0, .ref r0, .ref m0, .ref k0, .int (bI tt), .int lf])), (t0, .inr (0, [.ref tb, .int (nI (enR nt p1).2.2)])), (tb, .inl (cT, 242, .inl ft))] := by
      try rw [hF9]
      exact hD.sub [0, 1, 2] (by decide) rfl
    obtain ⟨sa9, hsa9⟩ := kg_str hG (List.mem_of_getElem? (i := 1) (a := (RX4, 64, "of sixteen bytes 0 to 16 can count")) rfl)
    exact vx_throwS (own := RX4) (cls := "java/lang/IllegalArgumentException") (names := ["java/lang/RuntimeException", "java/lang/Exception"]) hx hb hl9 hown (by decide +kernel) (by decide +kernel) (hts _ (kcm kwm_173)) (hts _ (kcm kwm_174)) hsa9 (kg_hat hG (L := vx_atS RX4 66 "java/lang/IllegalArgumentException" ["java/lang/RuntimeException", "java/lang/Exception"]) (fun w hw => hts w ((by decide +kernel : ∀ w ∈ (vx_atS RX4 66 "java/lang/IllegalArgumentException" ["java/lang/RuntimeException", "java/lang/Exception"]).filter goodWord, w ∈ wsX4_end) w hw)) (by decide +kernel)) (by decide +kernel) (kg_U hG) (kg_V hG) hS (hl.1.trans hml.symm) dX4_end_10 dX4_end_13 dX4_end_14 dX4_end_16 dX4_end_19 (fun x h9 => (hex x h9).elim) (Nat.le_of_ble_eq_true rfl) (Nat.le_of_ble_eq_true rfl) (Nat.le_of_ble_eq_true rfl) (Nat.le_of_ble_eq_true rfl) hlocks (kx_made (by rw [hF9]; exact (show (2 : Nat) ≠ 0 by decide)) (by rw [hF9]; rfl) hP9 hD9 hS) hS.2.2 (Nat.le_of_ble_eq_true rfl) (Nat.le_of_ble_eq_true rfl)
  · refine lv_iload_n hx hb dX4_end_4 rfl (lv_at hl 1 rfl) ?_
    refine lv_bipush (v := 16) hx hb dX4_end_5 (by decide) ?_
    refine lv_icmp_le (tgt := 20) hx hb dX4_end_7 (by decide) (fun c_7 => ?_) (fun c_7 => ?_)
    · refine lv_aload_n hx hb dX4_end_20 rfl (lv_at hl 0 rfl) ?_
      refine va_get (D := (dC, dI)) (ci := 4) (v := .ref t0) (C := RX4) (T := TX4) (N := 7) hx hb hts kin_4 hown hK hP 0 rfl rfl 0 (by decide) (hts _ (kcm kwm_133)) (fun _ h9 => h9) rfl dX4_end_21 ?_
      refine va_getN (D := (dC, dI)) (ci := 0) (v := .int (nI nt)) (C := RX0) (T := TX0) (N := 2) hx hb hts kin_0 hown hK hP 1 rfl rfl 1 (by decide) (kg_use hG (List.mem_of_getElem? (i := 14) (a := Cond.fieldLinkNest RX4 48 "ClockTexts$ByteRow" "length" "I" "ClockTexts") rfl)) (fun _ h9 => h9) rfl dX4_end_24 ?_
      refine lv_bipush (v := 16) hx hb dX4_end_27 (by decide) ?_
      refine lv_icmp_ge (tgt := 42) hx hb dX4_end_29 (by decide) (fun c_29 => ?_) (fun c_29 => ?_)
      · refine lv_aload_n hx hb dX4_end_42 rfl (lv_at hl 0 rfl) ?_
        refine va_get (D := (dC, dI)) (ci := 4) (v := .ref t0) (C := RX4) (T := TX4) (N := 7) hx hb hts kin_4 hown hK hP 0 rfl rfl 0 (by decide) (hts _ (kcm kwm_133)) (fun _ h9 => h9) rfl dX4_end_43 ?_
        refine lv_aload_n hx hb dX4_end_46 rfl (lv_at hl 0 rfl) ?_
        refine va_get (D := (dC, dI)) (ci := 4) (v := .ref t0) (C := RX4) (T := TX4) (N := 7) hx hb hts kin_4 hown hK hP 0 rfl rfl 0 (by decide) (hts _ (kcm kwm_133)) (fun _ h9 => h9) rfl dX4_end_47 ?_
        refine va_getN (D := (dC, dI)) (ci := 0) (v := .int (nI nt)) (C := RX0) (T := TX0) (N := 2) hx hb hts kin_0 hown hK hP 1 rfl rfl 1 (by decide) (kg_use hG (List.mem_of_getElem? (i := 14) (a := Cond.fieldLinkNest RX4 48 "ClockTexts$ByteRow" "length" "I" "ClockTexts") rfl)) (fun _ h9 => h9) rfl dX4_end_50 ?_
        refine lv_bipush (v := 16) hx hb dX4_end_53 (by decide) ?_
        refine lv_isub hx hb dX4_end_55 ?_
        refine lv_iload_n hx hb dX4_end_56 rfl (lv_at hl 1 rfl) ?_
        refine lv_iadd hx hb dX4_end_57 ?_
        rw [show ((nI nt) - 16) + p1 = nI (nt - 16 + p1.toNatClampNeg) from kb_end c_1 c_7 c_29 (by omega)]
        refine va_putN (D := (dC, dI)) (ci := 0) (v := .int (nI (nt - 16 + p1.toNatClampNeg))) (ty := .int) (C := RX0) (T := TX0) (N := 2) hx hb hts kin_0 tyX0 tyX0_ok nmX0 hown hK hP hD hS 1 rfl rfl 1 (by decide) (kg_use hG (List.mem_of_getElem? (i := 14) (a := Cond.fieldLinkNest RX4 48 "ClockTexts$ByteRow" "length" "I" "ClockTexts") rfl)) (fun _ h9 => h9) rfl (by decide +kernel) rfl rfl (Nat.le_of_ble_eq_true rfl) dX4_end_58 (fun H locs hP hD hS => ?_)
        have hP : va_P (dC, dI) kcl [(x, .inr (4, [.ref t0, .ref w0, .ref r0, .ref m0, .ref k0, .int (bI tt), .int lf])), (t0, .inr (0, [.ref tb, .int (nI (nt - 16 + p1.toNatClampNeg))])), (tb, .inl (cT, 242, .inl ft))] H := hP
        have hD : va_D A [(x, .inr (4, [.ref t0, .ref w0, .ref r0, .ref m0, .ref k0, .int (bI tt), .int lf])), (t0, .inr (0, [.ref tb, .int (nI (nt - 16 + p1.toNatClampNeg))])), (tb, .inl (cT, 242, .inl ft))] := hD
        refine lv_aload_n hx hb dX4_end_61 rfl (lv_at hl 0 rfl) ?_
        refine va_get (D := (dC, dI)) (ci := 4) (v := .ref t0) (C := RX4) (T := TX4) (N := 7) hx hb hts kin_4 hown hK hP 0 rfl rfl 0 (by decide) (hts _ (kcm kwm_133)) (fun _ h9 => h9) rfl dX4_end_62 ?_
        refine va_getN (D := (dC, dI)) (ci := 0) (v := .int (nI (nt - 16 + p1.toNatClampNeg))) (C := RX0) (T := TX0) (N := 2) hx hb hts kin_0 hown hK hP 1 rfl rfl 1 (by decide) (kg_use hG (List.mem_of_getElem? (i := 14) (a := Cond.fieldLinkNest RX4 48 "ClockTexts$ByteRow" "length" "I" "ClockTexts") rfl)) (fun _ h9 => h9) rfl dX4_end_65 ?_
        have hF9 : enR nt p1 = (0, nI (nt - 16 + p1.toNatClampNeg), (nt - 16 + p1.toNatClampNeg)) := by
          first | (simp only [enR, if_neg c_1, if_pos c_7, if_pos c_29]; done) | rfl
        have hP9 : va_P (dC, dI) kcl [(x, .inr (4, [.ref t0, .ref w0, .ref r0, .ref m0, .ref k0, .int (bI tt), .int lf])), (t0, .inr (0, [.ref tb, .int (nI (enR nt p1).2.2)])), (tb, .inl (cT, 242, .inl ft))] H := by
          try rw [hF9]
          exact hP.sub [0, 1, 2] rfl
        have hD9 : va_D A [(x, .inr (4, [.ref t0, .ref w0, .ref r0, .ref m0, .ref k0, .int (bI tt), .int lf])), (t0, .inr (0, [.ref tb, .int (nI (enR nt p1).2.2)])), (tb, .inl (cT, 242, .inl ft))] := by
          try rw [hF9]
          exact hD.sub [0, 1, 2] (by decide) rfl
        have hv9 : nI (nt - 16 + p1.toNatClampNeg) = (enR nt p1).2.1 := by
          try rw [hF9]
          try rfl
        exact kx_iret hx hb hr hlocks hv9 (by first | rw [hF9] | rfl) hP9 hD9 hS (Nat.le_of_ble_eq_true rfl) (Nat.le_of_ble_eq_true rfl) dX4_end_68
      · have hF9 : enR nt p1 = (1, 0, nt) := by
          first | (simp only [enR, if_neg c_1, if_pos c_7, if_neg c_29]; done) | rfl
        have hP9 : va_P (dC, dI) kcl [(x, .inr (4, [.ref t0, .ref w0, .ref r0, .ref m0, .ref k0, .int (bI tt), .int lf])), (t0, .inr (0, [.ref tb, .int (nI (enR nt p1).2.2)])), (tb, .inl (cT, 242, .inl ft))] s.heap := by
          try rw [hF9]
          exact hP.sub [0, 1, 2] rfl
        have hD9 : va_D A [(x, .inr (4, [.ref t0, .ref w0, .ref r0, .ref m0, .ref k0, .int (bI tt), .int lf])), (t0, .inr (0, [.ref tb, .int (nI (enR nt p1).2.2)])), (tb, .inl (cT, 242, .inl ft))] := by
          try rw [hF9]
          exact hD.sub [0, 1, 2] (by decide) rfl
        obtain ⟨sa9, hsa9⟩ := kg_str hG (List.mem_of_getElem? (i := 2) (a := (RX4, 67, "the text has less than sixteen bytes")) rfl)
        exact vx_throwS (own := RX4) (cls := "java/lang/IllegalStateException") (names := ["java/lang/RuntimeException", "java/lang/Exception"]) hx hb hl9 hown (by decide +kernel) (by decide +kernel) (hts _ (kcm kwm_171)) (hts _ (kcm kwm_172)) hsa9 (kg_hat hG (L := vx_atS RX4 55 "java/lang/IllegalStateException" ["java/lang/RuntimeException", "java/lang/Exception"]) (fun w hw => hts w ((by decide +kernel : ∀ w ∈ (vx_atS RX4 55 "java/lang/IllegalStateException" ["java/lang/RuntimeException", "java/lang/Exception"]).filter goodWord, w ∈ wsX4_end) w hw)) (by decide +kernel)) (by decide +kernel) (kg_U hG) (kg_V hG) hS (hl.1.trans hml.symm) dX4_end_32 dX4_end_35 dX4_end_36 dX4_end_38 dX4_end_41 (fun x h9 => (hex x h9).elim) (Nat.le_of_ble_eq_true rfl) (Nat.le_of_ble_eq_true rfl) (Nat.le_of_ble_eq_true rfl) (Nat.le_of_ble_eq_true rfl) hlocks (kx_made (by rw [hF9]; exact (show (1 : Nat) ≠ 0 by decide)) (by rw [hF9]; rfl) hP9 hD9 hS) hS.2.2 (Nat.le_of_ble_eq_true rfl) (Nat.le_of_ble_eq_true rfl)
    · have hF9 : enR nt p1 = (2, 0, nt) := by
        first | (simp only [enR, if_neg c_1, if_neg c_7]; done) | rfl
      have hP9 : va_P (dC, dI) kcl [(x, .inr (4, [.ref t0, .ref w0, .ref r0, .ref m0, .ref k0, .int (bI tt), .int lf])), (t0, .inr (0, [.ref tb, .int (nI (enR nt p1).2.2)])), (tb, .inl (cT, 242, .inl ft))] s.heap := by
        try rw [hF9]
        exact hP.sub [0, 1, 2] rfl
      have hD9 : va_D A [(x, .inr (4, [.ref t0, .ref w0, .ref r0, .ref m0, .ref k0, .int (bI tt), .int lf])), (t0, .inr (0, [.ref tb, .int (nI (enR nt p1).2.2)])), (tb, .inl (cT, 242, .inl ft))] := by
        try rw [hF9]
        exact hD.sub [0, 1, 2] (by decide) rfl
      obtain ⟨sa9, hsa9⟩ := kg_str hG (List.mem_of_getElem? (i := 1) (a := (RX4, 64, "of sixteen bytes 0 to 16 can count")) rfl)
      exact vx_throwS (own := RX4) (cls := "java/lang/IllegalArgumentException") (names := ["java/lang/RuntimeException", "java/lang/Exception"]) hx hb hl9 hown (by decide +kernel) (by decide +kernel) (hts _ (kcm kwm_173)) (hts _ (kcm kwm_174)) hsa9 (kg_hat hG (L := vx_atS RX4 66 "java/lang/IllegalArgumentException" ["java/lang/RuntimeException", "java/lang/Exception"]) (fun w hw => hts w ((by decide +kernel : ∀ w ∈ (vx_atS RX4 66 "java/lang/IllegalArgumentException" ["java/lang/RuntimeException", "java/lang/Exception"]).filter goodWord, w ∈ wsX4_end) w hw)) (by decide +kernel)) (by decide +kernel) (kg_U hG) (kg_V hG) hS (hl.1.trans hml.symm) dX4_end_10 dX4_end_13 dX4_end_14 dX4_end_16 dX4_end_19 (fun x h9 => (hex x h9).elim) (Nat.le_of_ble_eq_true rfl) (Nat.le_of_ble_eq_true rfl) (Nat.le_of_ble_eq_true rfl) (Nat.le_of_ble_eq_true rfl) hlocks (kx_made (by rw [hF9]; exact (show (2 : Nat) ≠ 0 by decide)) (by rw [hF9]; rfl) hP9 hD9 hS) hS.2.2 (Nat.le_of_ble_eq_true rfl) (Nat.le_of_ble_eq_true rfl)
def otR (fw : Nat → Int32) (nw : Nat) (p1 : Int32) : Nat × Int32 :=
  if p1 < 0 then
    (3, 0)
  else
    if p1 < (nI nw) then
      (0, rByte fw nw p1)
    else
      (3, 0)
set_option maxHeartbeats 4000000 in
set_option maxRecDepth 100000 in
theorem c_CT_out (l : Launch) (hl9 : l.stackTraces = false) (dC : Nat → ClassId) (dI : Nat → Nat → Nat) (st sz : Nat) (x : Nat) (t0 : Nat) (w0 : Nat) (r0 : Nat) (m0 : Nat) (k0 : Nat) (tt : Bool) (lf : Int32) (wb : Nat) (cV : ClassId) (fw : Nat → Int32) (nw : Nat) (p1 : Int32) (hw : nw ≤ 242) : vx_Met l yX4_out wsX4_out ({ frames := 6, cells := 1, slots := 6, locals := 90 }) (kc_Pc (dC, dI) kcl st sz [.ref x, .int p1] [(x, .inr (4, [.ref t0, .ref w0, .ref r0, .ref m0, .ref k0, .int (bI tt), .int lf])), (w0, .inr (0, [.ref wb, .int (nI nw)])), (wb, .inl (cV, 242, .inl fw))] [(cV, .byte)]) (kx_Qi (dC, dI) kcl (otR fw nw p1).1 (otR fw nw p1).2 [(x, .inr (4, [.ref t0, .ref w0, .ref r0, .ref m0, .ref k0, .int (bI tt), .int lf])), (w0, .inr (0, [.ref wb, .int (nI nw)])), (wb, .inl (cV, 242, .inl fw))] (va_A [(x, .inr (4, [.ref t0, .ref w0, .ref r0, .ref m0, .ref k0, .int (bI tt), .int lf])), (w0, .inr (0, [.ref wb, .int (nI nw)])), (wb, .inl (cV, 242, .inl fw))] sz)) (kx_X (dC, dI) kcl (otR fw nw p1).1 [(x, .inr (4, [.ref t0, .ref w0, .ref r0, .ref m0, .ref k0, .int (bI tt), .int lf])), (w0, .inr (0, [.ref wb, .int (nI nw)])), (wb, .inl (cV, 242, .inl fw))] (va_A [(x, .inr (4, [.ref t0, .ref w0, .ref r0, .ref m0, .ref k0, .int (bI tt), .int lf])), (w0, .inr (0, [.ref wb, .int (nI nw)])), (wb, .inl (cV, 242, .inl fw))] sz)) 1 6 (va_A [(x, .inr (4, [.ref t0, .ref w0, .ref r0, .ref m0, .ref k0, .int (bI tt), .int lf])), (w0, .inr (0, [.ref wb, .int (nI nw)])), (wb, .inl (cV, 242, .inl fw))] sz) := by
  refine kx_ofW (Qc := fun A => (kx_Qi (dC, dI) kcl (otR fw nw p1).1 (otR fw nw p1).2 [(x, .inr (4, [.ref t0, .ref w0, .ref r0, .ref m0, .ref k0, .int (bI tt), .int lf])), (w0, .inr (0, [.ref wb, .int (nI nw)])), (wb, .inl (cV, 242, .inl fw))] A)) (XC := fun A => kx_X (dC, dI) kcl (otR fw nw p1).1 [(x, .inr (4, [.ref t0, .ref w0, .ref r0, .ref m0, .ref k0, .int (bI tt), .int lf])), (w0, .inr (0, [.ref wb, .int (nI nw)])), (wb, .inl (cV, 242, .inl fw))] A) (cc := cX4_out) (maxL := 2) (ret := (some .int)) (by decide) rfl (Nat.le_of_ble_eq_true rfl) ?_
  intro p e s m below meth c A ls Cx hex hA hG hK hP hD hS hl
  obtain ⟨hx, hb, hr, hml, hown, hts, hlocks, hnm⟩ := id Cx
  have hl : lv_has ls 2 [(0, .ref x), (1, .int p1)] := hl
  refine lv_iload_n hx hb dX4_out_0 rfl (lv_at hl 1 rfl) ?_
  refine lv_if_lt (tgt := 15) hx hb dX4_out_1 (by decide) (fun c_1 => ?_) (fun c_1 => ?_)
  · have hF9 : otR fw nw p1 = (3, 0) := by
      first | (simp only [otR, if_pos c_1]; done) | rfl
    have hP9 : va_P (dC, dI) kcl [(x, .inr (4, [.ref t0, .ref w0, .ref r0, .ref m0, .ref k0, .int (bI tt), .int lf])), (w0, .inr (0, [.ref wb, .int (nI nw)])), (wb, .inl (cV, 242, .inl fw))] s.heap := by
      try rw [hF9]
      exact hP.sub [0, 1, 2] rfl
    have hD9 : va_D A [(x, .inr (4, [.ref t0, .ref w0, .ref r0, .ref m0, .ref k0, .int (bI tt), .int lf])), (w0, .inr (0, [.ref wb, .int (nI nw)])), (wb, .inl (cV, 242, .inl fw))] := by
      try rw [hF9]
      exact hD.sub [0, 1, 2] (by decide) rfl
    obtain ⟨sa9, hsa9⟩ := kg_str hG (List.mem_of_getElem? (i := 3) (a := (RX4, 82, "no such byte was written")) rfl)
    exact vx_throwS (own := RX4) (cls := "java/lang/IndexOutOfBoundsException") (names := ["java/lang/RuntimeException", "java/lang/Exception"]) hx hb hl9 hown (by decide +kernel) (by decide +kernel) (hts _ (kcm kwm_175)) (hts _ (kcm kwm_176)) hsa9 (kg_hat hG (L := vx_atS RX4 84 "java/lang/IndexOutOfBoundsException" ["java/lang/RuntimeException", "java/lang/Exception"]) (fun w hw => hts w ((by decide +kernel : ∀ w ∈ (vx_atS RX4 84 "java/lang/IndexOutOfBoundsException" ["java/lang/RuntimeException", "java/lang/Exception"]).filter goodWord, w ∈ wsX4_out) w hw)) (by decide +kernel)) (by decide +kernel) (kg_U hG) (kg_V hG) hS (hl.1.trans hml.symm) dX4_out_15 dX4_out_18 dX4_out_19 dX4_out_21 dX4_out_24 (fun x h9 => (hex x h9).elim) (Nat.le_of_ble_eq_true rfl) (Nat.le_of_ble_eq_true rfl) (Nat.le_of_ble_eq_true rfl) (Nat.le_of_ble_eq_true rfl) hlocks (kx_made (by rw [hF9]; exact (show (3 : Nat) ≠ 0 by decide)) (by rw [hF9]; rfl) hP9 hD9 hS) hS.2.2 (Nat.le_of_ble_eq_true rfl) (Nat.le_of_ble_eq_true rfl)
  · refine lv_iload_n hx hb dX4_out_4 rfl (lv_at hl 1 rfl) ?_
    refine lv_aload_n hx hb dX4_out_5 rfl (lv_at hl 0 rfl) ?_
    refine va_get (D := (dC, dI)) (ci := 4) (v := .ref w0) (C := RX4) (T := TX4) (N := 7) hx hb hts kin_4 hown hK hP 0 rfl rfl 1 (by decide) (hts _ (kcm kwm_131)) (fun _ h9 => h9) rfl dX4_out_6 ?_
    refine va_getN (D := (dC, dI)) (ci := 0) (v := .int (nI nw)) (C := RX0) (T := TX0) (N := 2) hx hb hts kin_0 hown hK hP 1 rfl rfl 1 (by decide) (kg_use hG (List.mem_of_getElem? (i := 14) (a := Cond.fieldLinkNest RX4 48 "ClockTexts$ByteRow" "length" "I" "ClockTexts") rfl)) (fun _ h9 => h9) rfl dX4_out_9 ?_
    refine lv_icmp_lt (tgt := 25) hx hb dX4_out_12 (by decide) (fun c_12 => ?_) (fun c_12 => ?_)
    · refine lv_aload_n hx hb dX4_out_25 rfl (lv_at hl 0 rfl) ?_
      refine va_get (D := (dC, dI)) (ci := 4) (v := .ref w0) (C := RX4) (T := TX4) (N := 7) hx hb hts kin_4 hown hK hP 0 rfl rfl 1 (by decide) (hts _ (kcm kwm_131)) (fun _ h9 => h9) rfl dX4_out_26 ?_
      refine lv_iload_n hx hb dX4_out_29 rfl (lv_at hl 1 rfl) ?_
      have hPc := hP.sub (ws' := [(w0, .inr (0, [.ref wb, .int (nI nw)])), (wb, .inl (cV, 242, .inl fw))]) [1, 2] rfl
      have hDc := hD.sub (ws' := [(w0, .inr (0, [.ref wb, .int (nI nw)])), (wb, .inl (cV, 242, .inl fw))]) [1, 2] (by decide) rfl
      have hKc := hK.sub (tys' := [(cV, .byte)]) [0] rfl
      have hFc := va_free (wc := [(w0, .inr (0, [.ref wb, .int (nI nw)])), (wb, .inl (cV, 242, .inl fw))]) hD hS hA [1, 2] rfl
      refine kc_callSi (val := rByte fw nw p1) (va_runV (As := [.int p1]) (rest := []) ⟨hx, hb, hml, hown, hts⟩ (c_Row_byteAt l dC dI st s.heap.size w0 wb cV fw nw p1 hw) (cwV 1 hts (kwV kwm_170 kwm_7 kwm_8 kwm_4 kwm_5) rfl rfl rfl (by decide +kernel) ⟨Nat.le_of_ble_eq_true rfl, Nat.le_of_ble_eq_true rfl⟩) ⟨kc_blind, va_recv hKc hPc (ci := 0) (q0 := 0) rfl rfl, kc_pre hG hS hFc hKc hPc hDc⟩ rfl rfl hl.1 rfl (lv_room (Nat.le_of_ble_eq_true rfl)) dX4_out_30 ⟨Nat.le_of_ble_eq_true rfl, Nat.le_of_ble_eq_true rfl⟩) ?_
      have hF9 : otR fw nw p1 = (0, rByte fw nw p1) := by
        first | (simp only [otR, if_neg c_1, if_pos c_12]; done) | rfl
      have hP9 : va_P (dC, dI) kcl [(x, .inr (4, [.ref t0, .ref w0, .ref r0, .ref m0, .ref k0, .int (bI tt), .int lf])), (w0, .inr (0, [.ref wb, .int (nI nw)])), (wb, .inl (cV, 242, .inl fw))] s.heap := by
        try rw [hF9]
        exact hP.sub [0, 1, 2] rfl
      have hD9 : va_D A [(x, .inr (4, [.ref t0, .ref w0, .ref r0, .ref m0, .ref k0, .int (bI tt), .int lf])), (w0, .inr (0, [.ref wb, .int (nI nw)])), (wb, .inl (cV, 242, .inl fw))] := by
        try rw [hF9]
        exact hD.sub [0, 1, 2] (by decide) rfl
      have hv9 : rByte fw nw p1 = (otR fw nw p1).2 := by
        try rw [hF9]
        try rfl
      exact kx_iret hx hb hr hlocks hv9 (by first | rw [hF9] | rfl) hP9 hD9 hS (Nat.le_of_ble_eq_true rfl) (Nat.le_of_ble_eq_true rfl) dX4_out_33
    · have hF9 : otR fw nw p1 = (3, 0) := by
        first | (simp only [otR, if_neg c_1, if_neg c_12]; done) | rfl
      have hP9 : va_P (dC, dI) kcl [(x, .inr (4, [.ref t0, .ref w0, .ref r0, .ref m0, .ref k0, .int (bI tt), .int lf])), (w0, .inr (0, [.ref wb, .int (nI nw)])), (wb, .inl (cV, 242, .inl fw))] s.heap := by
        try rw [hF9]
        exact hP.sub [0, 1, 2] rfl
      have hD9 : va_D A [(x, .inr (4, [.ref t0, .ref w0, .ref r0, .ref m0, .ref k0, .int (bI tt), .int lf])), (w0, .inr (0, [.ref wb, .int (nI nw)])), (wb, .inl (cV, 242, .inl fw))] := by
        try rw [hF9]
        exact hD.sub [0, 1, 2] (by decide) rfl
      obtain ⟨sa9, hsa9⟩ := kg_str hG (List.mem_of_getElem? (i := 3) (a := (RX4, 82, "no such byte was written")) rfl)
      exact vx_throwS (own := RX4) (cls := "java/lang/IndexOutOfBoundsException") (names := ["java/lang/RuntimeException", "java/lang/Exception"]) hx hb hl9 hown (by decide +kernel) (by decide +kernel) (hts _ (kcm kwm_175)) (hts _ (kcm kwm_176)) hsa9 (kg_hat hG (L := vx_atS RX4 84 "java/lang/IndexOutOfBoundsException" ["java/lang/RuntimeException", "java/lang/Exception"]) (fun w hw => hts w ((by decide +kernel : ∀ w ∈ (vx_atS RX4 84 "java/lang/IndexOutOfBoundsException" ["java/lang/RuntimeException", "java/lang/Exception"]).filter goodWord, w ∈ wsX4_out) w hw)) (by decide +kernel)) (by decide +kernel) (kg_U hG) (kg_V hG) hS (hl.1.trans hml.symm) dX4_out_15 dX4_out_18 dX4_out_19 dX4_out_21 dX4_out_24 (fun x h9 => (hex x h9).elim) (Nat.le_of_ble_eq_true rfl) (Nat.le_of_ble_eq_true rfl) (Nat.le_of_ble_eq_true rfl) (Nat.le_of_ble_eq_true rfl) hlocks (kx_made (by rw [hF9]; exact (show (3 : Nat) ≠ 0 by decide)) (by rw [hF9]; rfl) hP9 hD9 hS) hS.2.2 (Nat.le_of_ble_eq_true rfl) (Nat.le_of_ble_eq_true rfl)
