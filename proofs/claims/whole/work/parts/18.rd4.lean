def rdFault (f : Nat → Int32) (n : Nat) (kind mo d hh : Int32) (g : Nat → Int32) (k : Nat) : Int32 × Int32 × Int32 × Int32 × Int32 × Int32 × Int32 × Int32 × Int32 × (Nat → Int32) × Nat :=
  let v_18 := rdDate f n kind 0 mo d
  if (bI v_18.1) = 0 then
    (1, v_18.2.1, 0, v_18.2.2.1, v_18.2.2.2.1, v_18.2.2.2.2, hh, 0, 0, g, 0)
  else
    let v_28 := rdClock f n kind v_18.2.1 hh 0 0 g 0
    if (bI v_28.1) = 0 then
      (1, v_28.2.1, 0, v_18.2.2.1, v_18.2.2.2.1, v_18.2.2.2.2, v_28.2.2.1, v_28.2.2.2.1, v_28.2.2.2.2.1, v_28.2.2.2.2.2.1, v_28.2.2.2.2.2.2)
    else
      if kind = 1 then
        if v_28.2.1 = (nI n) then
          (2, v_28.2.1, 0, v_18.2.2.1, v_18.2.2.2.1, v_18.2.2.2.2, v_28.2.2.1, v_28.2.2.2.1, v_28.2.2.2.2.1, v_28.2.2.2.2.2.1, v_28.2.2.2.2.2.2)
        else
          let v_57 := rdZone f n kind v_28.2.1 0
          if (bI v_57.1) = 0 then
            (1, v_57.2.1, v_57.2.2, v_18.2.2.1, v_18.2.2.2.1, v_18.2.2.2.2, v_28.2.2.1, v_28.2.2.2.1, v_28.2.2.2.2.1, v_28.2.2.2.2.2.1, v_28.2.2.2.2.2.2)
          else
            if v_57.2.1 = (nI n) then
              let v_82 := movBy v_18.2.2.1 v_18.2.2.2.1 v_18.2.2.2.2 v_28.2.2.1 v_28.2.2.2.1 (-v_57.2.2)
              if (bI (yFits kind v_82.1)) = 0 then
                (3, v_57.2.1, v_57.2.2, v_82.1, v_82.2.1, v_82.2.2.1, v_82.2.2.2.1, v_82.2.2.2.2, v_28.2.2.2.2.1, v_28.2.2.2.2.2.1, v_28.2.2.2.2.2.2)
              else
                (0, v_57.2.1, v_57.2.2, v_82.1, v_82.2.1, v_82.2.2.1, v_82.2.2.2.1, v_82.2.2.2.2, v_28.2.2.2.2.1, v_28.2.2.2.2.2.1, v_28.2.2.2.2.2.2)
            else
              (1, v_57.2.1, v_57.2.2, v_18.2.2.1, v_18.2.2.2.1, v_18.2.2.2.2, v_28.2.2.1, v_28.2.2.2.1, v_28.2.2.2.2.1, v_28.2.2.2.2.2.1, v_28.2.2.2.2.2.2)
      else
        let v_57 := rdZone f n kind v_28.2.1 0
        if (bI v_57.1) = 0 then
          (1, v_57.2.1, v_57.2.2, v_18.2.2.1, v_18.2.2.2.1, v_18.2.2.2.2, v_28.2.2.1, v_28.2.2.2.1, v_28.2.2.2.2.1, v_28.2.2.2.2.2.1, v_28.2.2.2.2.2.2)
        else
          if v_57.2.1 = (nI n) then
            let v_82 := movBy v_18.2.2.1 v_18.2.2.2.1 v_18.2.2.2.2 v_28.2.2.1 v_28.2.2.2.1 (-v_57.2.2)
            if (bI (yFits kind v_82.1)) = 0 then
              (3, v_57.2.1, v_57.2.2, v_82.1, v_82.2.1, v_82.2.2.1, v_82.2.2.2.1, v_82.2.2.2.2, v_28.2.2.2.2.1, v_28.2.2.2.2.2.1, v_28.2.2.2.2.2.2)
            else
              (0, v_57.2.1, v_57.2.2, v_82.1, v_82.2.1, v_82.2.2.1, v_82.2.2.2.1, v_82.2.2.2.2, v_28.2.2.2.2.1, v_28.2.2.2.2.2.1, v_28.2.2.2.2.2.2)
          else
            (1, v_57.2.1, v_57.2.2, v_18.2.2.1, v_18.2.2.2.1, v_18.2.2.2.2, v_28.2.2.1, v_28.2.2.2.1, v_28.2.2.2.2.1, v_28.2.2.2.2.2.1, v_28.2.2.2.2.2.2)
set_option maxHeartbeats 4000000 in
set_option maxRecDepth 100000 in
theorem c_Rd_faultOf (l : Launch) (dC : Nat → ClassId) (dI : Nat → Nat → Nat) (st sz : Nat) (h : Nat) (ar : Nat) (ab : Nat) (cB : ClassId) (f : Nat → Int32) (n : Nat) (ta : Int32) (ah : Int32) (hm : Nat) (y : Int32) (mo : Int32) (d : Int32) (hh : Int32) (mi : Int32) (ss : Int32) (hp : Nat) (k : Nat) (cP : ClassId) (g : Nat → Int32) (kind : Int32) (hn : n ≤ 242) : Met l yX3_faultOf wsX3_faultOf ({ frames := 5, cells := 0, slots := 0, locals := 116 }) (kc_Pc (dC, dI) kcl st sz [.ref h, .ref ar, .int kind, .ref hm] [(h, .inr (3, [.int ta, .int ah])), (ar, .inr (0, [.ref ab, .int (nI n)])), (ab, .inl (cB, 242, .inl f)), (hm, .inr (2, [.int y, .int mo, .int d, .int hh, .int mi, .int ss, .ref hp, .int (nI k)])), (hp, .inl (cP, 242, .inl g))] [(cB, .byte), (cP, .byte)]) (kc_Qi (dC, dI) kcl (rdFault f n kind mo d hh g k).1 [(h, .inr (3, [.int (rdFault f n kind mo d hh g k).2.1, .int (rdFault f n kind mo d hh g k).2.2.1])), (ar, .inr (0, [.ref ab, .int (nI n)])), (ab, .inl (cB, 242, .inl f)), (hm, .inr (2, [.int (rdFault f n kind mo d hh g k).2.2.2.1, .int (rdFault f n kind mo d hh g k).2.2.2.2.1, .int (rdFault f n kind mo d hh g k).2.2.2.2.2.1, .int (rdFault f n kind mo d hh g k).2.2.2.2.2.2.1, .int (rdFault f n kind mo d hh g k).2.2.2.2.2.2.2.1, .int (rdFault f n kind mo d hh g k).2.2.2.2.2.2.2.2.1, .ref hp, .int (nI (rdFault f n kind mo d hh g k).2.2.2.2.2.2.2.2.2.2)])), (hp, .inl (cP, 242, .inl (rdFault f n kind mo d hh g k).2.2.2.2.2.2.2.2.2.1))] (va_A [(h, .inr (3, [.int ta, .int ah])), (ar, .inr (0, [.ref ab, .int (nI n)])), (ab, .inl (cB, 242, .inl f)), (hm, .inr (2, [.int y, .int mo, .int d, .int hh, .int mi, .int ss, .ref hp, .int (nI k)])), (hp, .inl (cP, 242, .inl g))] sz)) 0 0 (va_A [(h, .inr (3, [.int ta, .int ah])), (ar, .inr (0, [.ref ab, .int (nI n)])), (ab, .inl (cB, 242, .inl f)), (hm, .inr (2, [.int y, .int mo, .int d, .int hh, .int mi, .int ss, .ref hp, .int (nI k)])), (hp, .inl (cP, 242, .inl g))] sz) := by
  refine kc_ofW (Qc := fun A => (kc_Qi (dC, dI) kcl (rdFault f n kind mo d hh g k).1 [(h, .inr (3, [.int (rdFault f n kind mo d hh g k).2.1, .int (rdFault f n kind mo d hh g k).2.2.1])), (ar, .inr (0, [.ref ab, .int (nI n)])), (ab, .inl (cB, 242, .inl f)), (hm, .inr (2, [.int (rdFault f n kind mo d hh g k).2.2.2.1, .int (rdFault f n kind mo d hh g k).2.2.2.2.1, .int (rdFault f n kind mo d hh g k).2.2.2.2.2.1, .int (rdFault f n kind mo d hh g k).2.2.2.2.2.2.1, .int (rdFault f n kind mo d hh g k).2.2.2.2.2.2.2.1, .int (rdFault f n kind mo d hh g k).2.2.2.2.2.2.2.2.1, .ref hp, .int (nI (rdFault f n kind mo d hh g k).2.2.2.2.2.2.2.2.2.2)])), (hp, .inl (cP, 242, .inl (rdFault f n kind mo d hh g k).2.2.2.2.2.2.2.2.2.1))] A)) (cc := cX3_faultOf) (maxL := 4) (ret := (some .int)) (by decide) rfl (Nat.le_of_ble_eq_true rfl) ?_
  intro p e s m below meth c A ls Cx hA hG hK hP hD hS hl
  obtain ⟨hx, hb, hr, hml, hown, hts, hlocks, hnm⟩ := id Cx
  have hl : lv_has ls 4 [(0, .ref h), (1, .ref ar), (2, .int kind), (3, .ref hm)] := hl
  refine lv_aload_n hx hb dX3_faultOf_0 rfl (lv_at hl 0 rfl) ?_
  refine lv_iconst (v := 0) hx hb dX3_faultOf_1 (by decide) ?_
  refine va_put (D := (dC, dI)) (ci := 3) (v := .int 0) (ty := .int) (C := RX3) (T := TX3) (N := 2) hx hb hts kin_3 tyX3 tyX3_ok nmX3 hown hK hP hD hS 0 rfl rfl 0 (by decide) (hts _ (kcm kwm_61)) (fun _ h9 => h9) rfl (by decide +kernel) rfl rfl (Nat.le_of_ble_eq_true rfl) dX3_faultOf_2 (fun H locs hP hD hS => ?_)
  have hP : va_P (dC, dI) kcl [(h, .inr (3, [.int 0, .int ah])), (ar, .inr (0, [.ref ab, .int (nI n)])), (ab, .inl (cB, 242, .inl f)), (hm, .inr (2, [.int y, .int mo, .int d, .int hh, .int mi, .int ss, .ref hp, .int (nI k)])), (hp, .inl (cP, 242, .inl g))] H := hP
  have hD : va_D A [(h, .inr (3, [.int 0, .int ah])), (ar, .inr (0, [.ref ab, .int (nI n)])), (ab, .inl (cB, 242, .inl f)), (hm, .inr (2, [.int y, .int mo, .int d, .int hh, .int mi, .int ss, .ref hp, .int (nI k)])), (hp, .inl (cP, 242, .inl g))] := hD
  refine lv_aload_n hx hb dX3_faultOf_5 rfl (lv_at hl 0 rfl) ?_
  refine lv_iconst (v := 0) hx hb dX3_faultOf_6 (by decide) ?_
  refine va_put (D := (dC, dI)) (ci := 3) (v := .int 0) (ty := .int) (C := RX3) (T := TX3) (N := 2) hx hb hts kin_3 tyX3 tyX3_ok nmX3 hown hK hP hD hS 0 rfl rfl 1 (by decide) (hts _ (kcm kwm_63)) (fun _ h9 => h9) rfl (by decide +kernel) rfl rfl (Nat.le_of_ble_eq_true rfl) dX3_faultOf_7 (fun H locs hP hD hS => ?_)
  have hP : va_P (dC, dI) kcl [(h, .inr (3, [.int 0, .int 0])), (ar, .inr (0, [.ref ab, .int (nI n)])), (ab, .inl (cB, 242, .inl f)), (hm, .inr (2, [.int y, .int mo, .int d, .int hh, .int mi, .int ss, .ref hp, .int (nI k)])), (hp, .inl (cP, 242, .inl g))] H := hP
  have hD : va_D A [(h, .inr (3, [.int 0, .int 0])), (ar, .inr (0, [.ref ab, .int (nI n)])), (ab, .inl (cB, 242, .inl f)), (hm, .inr (2, [.int y, .int mo, .int d, .int hh, .int mi, .int ss, .ref hp, .int (nI k)])), (hp, .inl (cP, 242, .inl g))] := hD
  refine lv_aload_n hx hb dX3_faultOf_10 rfl (lv_at hl 3 rfl) ?_
  have hPc := hP.sub (ws' := [(hm, .inr (2, [.int y, .int mo, .int d, .int hh, .int mi, .int ss, .ref hp, .int (nI k)]))]) [3] rfl
  have hDc := hD.sub (ws' := [(hm, .inr (2, [.int y, .int mo, .int d, .int hh, .int mi, .int ss, .ref hp, .int (nI k)]))]) [3] (by decide) rfl
  have hKc := hK.sub (tys' := []) [] rfl
  have hFc := va_free (wc := [(hm, .inr (2, [.int y, .int mo, .int d, .int hh, .int mi, .int ss, .ref hp, .int (nI k)]))]) hD hS hA [3] rfl
  refine kc_callv (wr := [(h, .inr (3, [.int 0, .int 0])), (ar, .inr (0, [.ref ab, .int (nI n)])), (ab, .inl (cB, 242, .inl f)), (hp, .inl (cP, 242, .inl g))]) (w1 := [(hm, .inr (2, [.int y, .int mo, .int d, .int hh, .int 0, .int 0, .ref hp, .int (nI 0)]))]) (va_runV (As := []) (rest := []) ⟨hx, hb, hml, hown, hts⟩ (c_Mo_clearOptional l dC dI st H.size hm y mo d hh mi ss hp k ) (cwV 0 hts (kwV kwm_81 kwm_82 kwm_83 kwm_21 kwm_80) rfl rfl rfl (by decide +kernel) ⟨Nat.le_of_ble_eq_true rfl, Nat.le_of_ble_eq_true rfl⟩) ⟨kc_blind, va_recv hKc hPc (ci := 2) (q0 := 0) rfl rfl, kc_pre hG hS hFc hKc hPc hDc⟩ rfl rfl hl.1 rfl (lv_room (Nat.le_of_ble_eq_true rfl)) dX3_faultOf_11 ⟨Nat.le_of_ble_eq_true rfl, Nat.le_of_ble_eq_true rfl⟩) hP hD hS hFc [3] [0, 1, 2, 4] rfl rfl (by decide) (by decide) (fun H locs hP hD hS => ?_)
  have hP : va_P (dC, dI) kcl [(h, .inr (3, [.int 0, .int 0])), (ar, .inr (0, [.ref ab, .int (nI n)])), (ab, .inl (cB, 242, .inl f)), (hp, .inl (cP, 242, .inl g)), (hm, .inr (2, [.int y, .int mo, .int d, .int hh, .int 0, .int 0, .ref hp, .int (nI 0)]))] H := hP
  have hD : va_D A [(h, .inr (3, [.int 0, .int 0])), (ar, .inr (0, [.ref ab, .int (nI n)])), (ab, .inl (cB, 242, .inl f)), (hp, .inl (cP, 242, .inl g)), (hm, .inr (2, [.int y, .int mo, .int d, .int hh, .int 0, .int 0, .ref hp, .int (nI 0)]))] := hD
  refine lv_aload_n hx hb dX3_faultOf_14 rfl (lv_at hl 0 rfl) ?_
  refine lv_aload_n hx hb dX3_faultOf_15 rfl (lv_at hl 1 rfl) ?_
  refine lv_iload_n hx hb dX3_faultOf_16 rfl (lv_at hl 2 rfl) ?_
  refine lv_aload_n hx hb dX3_faultOf_17 rfl (lv_at hl 3 rfl) ?_
  have hPc := hP.sub (ws' := [(h, .inr (3, [.int 0, .int 0])), (ar, .inr (0, [.ref ab, .int (nI n)])), (ab, .inl (cB, 242, .inl f)), (hm, .inr (2, [.int y, .int mo, .int d, .int hh, .int 0, .int 0, .ref hp, .int (nI 0)]))]) [0, 1, 2, 4] rfl
  have hDc := hD.sub (ws' := [(h, .inr (3, [.int 0, .int 0])), (ar, .inr (0, [.ref ab, .int (nI n)])), (ab, .inl (cB, 242, .inl f)), (hm, .inr (2, [.int y, .int mo, .int d, .int hh, .int 0, .int 0, .ref hp, .int (nI 0)]))]) [0, 1, 2, 4] (by decide) rfl
  have hKc := hK.sub (tys' := [(cB, .byte)]) [0] rfl
  have hFc := va_free (wc := [(h, .inr (3, [.int 0, .int 0])), (ar, .inr (0, [.ref ab, .int (nI n)])), (ab, .inl (cB, 242, .inl f)), (hm, .inr (2, [.int y, .int mo, .int d, .int hh, .int 0, .int 0, .ref hp, .int (nI 0)]))]) hD hS hA [0, 1, 2, 4] rfl
  refine kc_calli (val := bI (rdDate f n kind 0 mo d).1) (wr := [(hp, .inl (cP, 242, .inl g))]) (w1 := [(h, .inr (3, [.int (rdDate f n kind 0 mo d).2.1, .int 0])), (ar, .inr (0, [.ref ab, .int (nI n)])), (ab, .inl (cB, 242, .inl f)), (hm, .inr (2, [.int (rdDate f n kind 0 mo d).2.2.1, .int (rdDate f n kind 0 mo d).2.2.2.1, .int (rdDate f n kind 0 mo d).2.2.2.2, .int hh, .int 0, .int 0, .ref hp, .int (nI 0)]))]) (va_runV (As := [.ref ar, .int kind, .ref hm]) (rest := []) ⟨hx, hb, hml, hown, hts⟩ (c_Rd_readDate l dC dI st H.size h ar ab cB f n 0 0 hm y mo d hh 0 0 hp 0 kind hn) (cwV 3 hts (kwV kwm_85 kwm_86 kwm_87 kwm_52 kwm_84) rfl rfl rfl (by decide +kernel) ⟨Nat.le_of_ble_eq_true rfl, Nat.le_of_ble_eq_true rfl⟩) ⟨kc_blind, va_recv hKc hPc (ci := 3) (q0 := 0) rfl rfl, kc_pre hG hS hFc hKc hPc hDc⟩ rfl rfl hl.1 rfl (lv_room (Nat.le_of_ble_eq_true rfl)) dX3_faultOf_18 ⟨Nat.le_of_ble_eq_true rfl, Nat.le_of_ble_eq_true rfl⟩) hP hD hS hFc [0, 1, 2, 4] [3] rfl rfl (by decide) (by decide) (fun H locs hP hD hS => ?_)
  have hP : va_P (dC, dI) kcl [(hp, .inl (cP, 242, .inl g)), (h, .inr (3, [.int (rdDate f n kind 0 mo d).2.1, .int 0])), (ar, .inr (0, [.ref ab, .int (nI n)])), (ab, .inl (cB, 242, .inl f)), (hm, .inr (2, [.int (rdDate f n kind 0 mo d).2.2.1, .int (rdDate f n kind 0 mo d).2.2.2.1, .int (rdDate f n kind 0 mo d).2.2.2.2, .int hh, .int 0, .int 0, .ref hp, .int (nI 0)]))] H := hP
  have hD : va_D A [(hp, .inl (cP, 242, .inl g)), (h, .inr (3, [.int (rdDate f n kind 0 mo d).2.1, .int 0])), (ar, .inr (0, [.ref ab, .int (nI n)])), (ab, .inl (cB, 242, .inl f)), (hm, .inr (2, [.int (rdDate f n kind 0 mo d).2.2.1, .int (rdDate f n kind 0 mo d).2.2.2.1, .int (rdDate f n kind 0 mo d).2.2.2.2, .int hh, .int 0, .int 0, .ref hp, .int (nI 0)]))] := hD
  generalize e_18 : rdDate f n kind 0 mo d = v_18 at hP hD ⊢
  have hP : va_P (dC, dI) kcl [(hp, .inl (cP, 242, .inl g)), (h, .inr (3, [.int v_18.2.1, .int 0])), (ar, .inr (0, [.ref ab, .int (nI n)])), (ab, .inl (cB, 242, .inl f)), (hm, .inr (2, [.int v_18.2.2.1, .int v_18.2.2.2.1, .int v_18.2.2.2.2, .int hh, .int 0, .int 0, .ref hp, .int (nI 0)]))] H := hP
  have hD : va_D A [(hp, .inl (cP, 242, .inl g)), (h, .inr (3, [.int v_18.2.1, .int 0])), (ar, .inr (0, [.ref ab, .int (nI n)])), (ab, .inl (cB, 242, .inl f)), (hm, .inr (2, [.int v_18.2.2.1, .int v_18.2.2.2.1, .int v_18.2.2.2.2, .int hh, .int 0, .int 0, .ref hp, .int (nI 0)]))] := hD
  refine lv_if_eq (tgt := 34) hx hb dX3_faultOf_21 (by decide) (fun c_21 => ?_) (fun c_21 => ?_)
  · refine lv_iconst (v := 1) hx hb dX3_faultOf_34 (by decide) ?_
    have hF9 : rdFault f n kind mo d hh g k = (1, v_18.2.1, 0, v_18.2.2.1, v_18.2.2.2.1, v_18.2.2.2.2, hh, 0, 0, g, 0) := by
      subst e_18
      first | (simp only [rdFault, if_pos c_21]; done) | rfl
    have hP9 : va_P (dC, dI) kcl [(h, .inr (3, [.int (rdFault f n kind mo d hh g k).2.1, .int (rdFault f n kind mo d hh g k).2.2.1])), (ar, .inr (0, [.ref ab, .int (nI n)])), (ab, .inl (cB, 242, .inl f)), (hm, .inr (2, [.int (rdFault f n kind mo d hh g k).2.2.2.1, .int (rdFault f n kind mo d hh g k).2.2.2.2.1, .int (rdFault f n kind mo d hh g k).2.2.2.2.2.1, .int (rdFault f n kind mo d hh g k).2.2.2.2.2.2.1, .int (rdFault f n kind mo d hh g k).2.2.2.2.2.2.2.1, .int (rdFault f n kind mo d hh g k).2.2.2.2.2.2.2.2.1, .ref hp, .int (nI (rdFault f n kind mo d hh g k).2.2.2.2.2.2.2.2.2.2)])), (hp, .inl (cP, 242, .inl (rdFault f n kind mo d hh g k).2.2.2.2.2.2.2.2.2.1))] H := by
      try rw [hF9]
      exact hP.sub [1, 2, 3, 4, 0] rfl
    have hD9 : va_D A [(h, .inr (3, [.int (rdFault f n kind mo d hh g k).2.1, .int (rdFault f n kind mo d hh g k).2.2.1])), (ar, .inr (0, [.ref ab, .int (nI n)])), (ab, .inl (cB, 242, .inl f)), (hm, .inr (2, [.int (rdFault f n kind mo d hh g k).2.2.2.1, .int (rdFault f n kind mo d hh g k).2.2.2.2.1, .int (rdFault f n kind mo d hh g k).2.2.2.2.2.1, .int (rdFault f n kind mo d hh g k).2.2.2.2.2.2.1, .int (rdFault f n kind mo d hh g k).2.2.2.2.2.2.2.1, .int (rdFault f n kind mo d hh g k).2.2.2.2.2.2.2.2.1, .ref hp, .int (nI (rdFault f n kind mo d hh g k).2.2.2.2.2.2.2.2.2.2)])), (hp, .inl (cP, 242, .inl (rdFault f n kind mo d hh g k).2.2.2.2.2.2.2.2.2.1))] := by
      try rw [hF9]
      exact hD.sub [1, 2, 3, 4, 0] (by decide) rfl
    have hv9 : (1 : Int32) = (rdFault f n kind mo d hh g k).1 := by
      try rw [hF9]
      try rfl
    exact kc_iret hx hb hr hlocks hv9 hP9 hD9 hS dX3_faultOf_35
  · refine lv_aload_n hx hb dX3_faultOf_24 rfl (lv_at hl 0 rfl) ?_
    refine lv_aload_n hx hb dX3_faultOf_25 rfl (lv_at hl 1 rfl) ?_
    refine lv_iload_n hx hb dX3_faultOf_26 rfl (lv_at hl 2 rfl) ?_
    refine lv_aload_n hx hb dX3_faultOf_27 rfl (lv_at hl 3 rfl) ?_
    have hPc := hP.sub (ws' := [(h, .inr (3, [.int v_18.2.1, .int 0])), (ar, .inr (0, [.ref ab, .int (nI n)])), (ab, .inl (cB, 242, .inl f)), (hm, .inr (2, [.int v_18.2.2.1, .int v_18.2.2.2.1, .int v_18.2.2.2.2, .int hh, .int 0, .int 0, .ref hp, .int (nI 0)])), (hp, .inl (cP, 242, .inl g))]) [1, 2, 3, 4, 0] rfl
    have hDc := hD.sub (ws' := [(h, .inr (3, [.int v_18.2.1, .int 0])), (ar, .inr (0, [.ref ab, .int (nI n)])), (ab, .inl (cB, 242, .inl f)), (hm, .inr (2, [.int v_18.2.2.1, .int v_18.2.2.2.1, .int v_18.2.2.2.2, .int hh, .int 0, .int 0, .ref hp, .int (nI 0)])), (hp, .inl (cP, 242, .inl g))]) [1, 2, 3, 4, 0] (by decide) rfl
    have hKc := hK.sub (tys' := [(cB, .byte), (cP, .byte)]) [0, 1] rfl
    have hFc := va_free (wc := [(h, .inr (3, [.int v_18.2.1, .int 0])), (ar, .inr (0, [.ref ab, .int (nI n)])), (ab, .inl (cB, 242, .inl f)), (hm, .inr (2, [.int v_18.2.2.1, .int v_18.2.2.2.1, .int v_18.2.2.2.2, .int hh, .int 0, .int 0, .ref hp, .int (nI 0)])), (hp, .inl (cP, 242, .inl g))]) hD hS hA [1, 2, 3, 4, 0] rfl
    refine kc_calli (val := bI (rdClock f n kind v_18.2.1 hh 0 0 g 0).1) (wr := []) (w1 := [(h, .inr (3, [.int (rdClock f n kind v_18.2.1 hh 0 0 g 0).2.1, .int 0])), (ar, .inr (0, [.ref ab, .int (nI n)])), (ab, .inl (cB, 242, .inl f)), (hm, .inr (2, [.int v_18.2.2.1, .int v_18.2.2.2.1, .int v_18.2.2.2.2, .int (rdClock f n kind v_18.2.1 hh 0 0 g 0).2.2.1, .int (rdClock f n kind v_18.2.1 hh 0 0 g 0).2.2.2.1, .int (rdClock f n kind v_18.2.1 hh 0 0 g 0).2.2.2.2.1, .ref hp, .int (nI (rdClock f n kind v_18.2.1 hh 0 0 g 0).2.2.2.2.2.2)])), (hp, .inl (cP, 242, .inl (rdClock f n kind v_18.2.1 hh 0 0 g 0).2.2.2.2.2.1))]) (va_runV (As := [.ref ar, .int kind, .ref hm]) (rest := []) ⟨hx, hb, hml, hown, hts⟩ (c_Rd_readClock l dC dI st H.size h ar ab cB f n v_18.2.1 0 hm v_18.2.2.1 v_18.2.2.2.1 v_18.2.2.2.2 hh 0 0 hp 0 cP g kind hn (Nat.zero_le _)) (cwV 3 hts (kwV kwm_89 kwm_90 kwm_91 kwm_52 kwm_88) rfl rfl rfl (by decide +kernel) ⟨Nat.le_of_ble_eq_true rfl, Nat.le_of_ble_eq_true rfl⟩) ⟨kc_blind, va_recv hKc hPc (ci := 3) (q0 := 0) rfl rfl, kc_pre hG hS hFc hKc hPc hDc⟩ rfl rfl hl.1 rfl (lv_room (Nat.le_of_ble_eq_true rfl)) dX3_faultOf_28 ⟨Nat.le_of_ble_eq_true rfl, Nat.le_of_ble_eq_true rfl⟩) hP hD hS hFc [1, 2, 3, 4, 0] [] rfl rfl (by decide) (by decide) (fun H locs hP hD hS => ?_)
    have hP : va_P (dC, dI) kcl [(h, .inr (3, [.int (rdClock f n kind v_18.2.1 hh 0 0 g 0).2.1, .int 0])), (ar, .inr (0, [.ref ab, .int (nI n)])), (ab, .inl (cB, 242, .inl f)), (hm, .inr (2, [.int v_18.2.2.1, .int v_18.2.2.2.1, .int v_18.2.2.2.2, .int (rdClock f n kind v_18.2.1 hh 0 0 g 0).2.2.1, .int (rdClock f n kind v_18.2.1 hh 0 0 g 0).2.2.2.1, .int (rdClock f n kind v_18.2.1 hh 0 0 g 0).2.2.2.2.1, .ref hp, .int (nI (rdClock f n kind v_18.2.1 hh 0 0 g 0).2.2.2.2.2.2)])), (hp, .inl (cP, 242, .inl (rdClock f n kind v_18.2.1 hh 0 0 g 0).2.2.2.2.2.1))] H := hP
    have hD : va_D A [(h, .inr (3, [.int (rdClock f n kind v_18.2.1 hh 0 0 g 0).2.1, .int 0])), (ar, .inr (0, [.ref ab, .int (nI n)])), (ab, .inl (cB, 242, .inl f)), (hm, .inr (2, [.int v_18.2.2.1, .int v_18.2.2.2.1, .int v_18.2.2.2.2, .int (rdClock f n kind v_18.2.1 hh 0 0 g 0).2.2.1, .int (rdClock f n kind v_18.2.1 hh 0 0 g 0).2.2.2.1, .int (rdClock f n kind v_18.2.1 hh 0 0 g 0).2.2.2.2.1, .ref hp, .int (nI (rdClock f n kind v_18.2.1 hh 0 0 g 0).2.2.2.2.2.2)])), (hp, .inl (cP, 242, .inl (rdClock f n kind v_18.2.1 hh 0 0 g 0).2.2.2.2.2.1))] := hD
    generalize e_28 : rdClock f n kind v_18.2.1 hh 0 0 g 0 = v_28 at hP hD ⊢
    have hP : va_P (dC, dI) kcl [(h, .inr (3, [.int v_28.2.1, .int 0])), (ar, .inr (0, [.ref ab, .int (nI n)])), (ab, .inl (cB, 242, .inl f)), (hm, .inr (2, [.int v_18.2.2.1, .int v_18.2.2.2.1, .int v_18.2.2.2.2, .int v_28.2.2.1, .int v_28.2.2.2.1, .int v_28.2.2.2.2.1, .ref hp, .int (nI v_28.2.2.2.2.2.2)])), (hp, .inl (cP, 242, .inl v_28.2.2.2.2.2.1))] H := hP
    have hD : va_D A [(h, .inr (3, [.int v_28.2.1, .int 0])), (ar, .inr (0, [.ref ab, .int (nI n)])), (ab, .inl (cB, 242, .inl f)), (hm, .inr (2, [.int v_18.2.2.1, .int v_18.2.2.2.1, .int v_18.2.2.2.2, .int v_28.2.2.1, .int v_28.2.2.2.1, .int v_28.2.2.2.2.1, .ref hp, .int (nI v_28.2.2.2.2.2.2)])), (hp, .inl (cP, 242, .inl v_28.2.2.2.2.2.1))] := hD
    refine lv_if_ne (tgt := 36) hx hb dX3_faultOf_31 (by decide) (fun c_31 => ?_) (fun c_31 => ?_)
    · refine lv_iload_n hx hb dX3_faultOf_36 rfl (lv_at hl 2 rfl) ?_
      refine lv_iconst (v := 1) hx hb dX3_faultOf_37 (by decide) ?_
      refine lv_icmp_ne (tgt := 54) hx hb dX3_faultOf_38 (by decide) (fun c_38 => ?_) (fun c_38 => ?_)
      · refine lv_aload_n hx hb dX3_faultOf_54 rfl (lv_at hl 0 rfl) ?_
        refine lv_aload_n hx hb dX3_faultOf_55 rfl (lv_at hl 1 rfl) ?_
        refine lv_iload_n hx hb dX3_faultOf_56 rfl (lv_at hl 2 rfl) ?_
        have hPc := hP.sub (ws' := [(h, .inr (3, [.int v_28.2.1, .int 0])), (ar, .inr (0, [.ref ab, .int (nI n)])), (ab, .inl (cB, 242, .inl f))]) [0, 1, 2] rfl
        have hDc := hD.sub (ws' := [(h, .inr (3, [.int v_28.2.1, .int 0])), (ar, .inr (0, [.ref ab, .int (nI n)])), (ab, .inl (cB, 242, .inl f))]) [0, 1, 2] (by decide) rfl
        have hKc := hK.sub (tys' := [(cB, .byte)]) [0] rfl
        have hFc := va_free (wc := [(h, .inr (3, [.int v_28.2.1, .int 0])), (ar, .inr (0, [.ref ab, .int (nI n)])), (ab, .inl (cB, 242, .inl f))]) hD hS hA [0, 1, 2] rfl
        refine kc_calli (val := bI (rdZone f n kind v_28.2.1 0).1) (wr := [(hm, .inr (2, [.int v_18.2.2.1, .int v_18.2.2.2.1, .int v_18.2.2.2.2, .int v_28.2.2.1, .int v_28.2.2.2.1, .int v_28.2.2.2.2.1, .ref hp, .int (nI v_28.2.2.2.2.2.2)])), (hp, .inl (cP, 242, .inl v_28.2.2.2.2.2.1))]) (w1 := [(h, .inr (3, [.int (rdZone f n kind v_28.2.1 0).2.1, .int (rdZone f n kind v_28.2.1 0).2.2])), (ar, .inr (0, [.ref ab, .int (nI n)])), (ab, .inl (cB, 242, .inl f))]) (va_runV (As := [.ref ar, .int kind]) (rest := []) ⟨hx, hb, hml, hown, hts⟩ (c_Rd_readZone l dC dI st H.size h ar ab cB f n v_28.2.1 0 kind hn) (cwV 2 hts (kwV kwm_93 kwm_94 kwm_95 kwm_52 kwm_92) rfl rfl rfl (by decide +kernel) ⟨Nat.le_of_ble_eq_true rfl, Nat.le_of_ble_eq_true rfl⟩) ⟨kc_blind, va_recv hKc hPc (ci := 3) (q0 := 0) rfl rfl, kc_pre hG hS hFc hKc hPc hDc⟩ rfl rfl hl.1 rfl (lv_room (Nat.le_of_ble_eq_true rfl)) dX3_faultOf_57 ⟨Nat.le_of_ble_eq_true rfl, Nat.le_of_ble_eq_true rfl⟩) hP hD hS hFc [0, 1, 2] [3, 4] rfl rfl (by decide) (by decide) (fun H locs hP hD hS => ?_)
        have hP : va_P (dC, dI) kcl [(hm, .inr (2, [.int v_18.2.2.1, .int v_18.2.2.2.1, .int v_18.2.2.2.2, .int v_28.2.2.1, .int v_28.2.2.2.1, .int v_28.2.2.2.2.1, .ref hp, .int (nI v_28.2.2.2.2.2.2)])), (hp, .inl (cP, 242, .inl v_28.2.2.2.2.2.1)), (h, .inr (3, [.int (rdZone f n kind v_28.2.1 0).2.1, .int (rdZone f n kind v_28.2.1 0).2.2])), (ar, .inr (0, [.ref ab, .int (nI n)])), (ab, .inl (cB, 242, .inl f))] H := hP
        have hD : va_D A [(hm, .inr (2, [.int v_18.2.2.1, .int v_18.2.2.2.1, .int v_18.2.2.2.2, .int v_28.2.2.1, .int v_28.2.2.2.1, .int v_28.2.2.2.2.1, .ref hp, .int (nI v_28.2.2.2.2.2.2)])), (hp, .inl (cP, 242, .inl v_28.2.2.2.2.2.1)), (h, .inr (3, [.int (rdZone f n kind v_28.2.1 0).2.1, .int (rdZone f n kind v_28.2.1 0).2.2])), (ar, .inr (0, [.ref ab, .int (nI n)])), (ab, .inl (cB, 242, .inl f))] := hD
        generalize e_57 : rdZone f n kind v_28.2.1 0 = v_57 at hP hD ⊢
        have hP : va_P (dC, dI) kcl [(hm, .inr (2, [.int v_18.2.2.1, .int v_18.2.2.2.1, .int v_18.2.2.2.2, .int v_28.2.2.1, .int v_28.2.2.2.1, .int v_28.2.2.2.2.1, .ref hp, .int (nI v_28.2.2.2.2.2.2)])), (hp, .inl (cP, 242, .inl v_28.2.2.2.2.2.1)), (h, .inr (3, [.int v_57.2.1, .int v_57.2.2])), (ar, .inr (0, [.ref ab, .int (nI n)])), (ab, .inl (cB, 242, .inl f))] H := hP
        have hD : va_D A [(hm, .inr (2, [.int v_18.2.2.1, .int v_18.2.2.2.1, .int v_18.2.2.2.2, .int v_28.2.2.1, .int v_28.2.2.2.1, .int v_28.2.2.2.2.1, .ref hp, .int (nI v_28.2.2.2.2.2.2)])), (hp, .inl (cP, 242, .inl v_28.2.2.2.2.2.1)), (h, .inr (3, [.int v_57.2.1, .int v_57.2.2])), (ar, .inr (0, [.ref ab, .int (nI n)])), (ab, .inl (cB, 242, .inl f))] := hD
        refine lv_if_eq (tgt := 74) hx hb dX3_faultOf_60 (by decide) (fun c_60 => ?_) (fun c_60 => ?_)
        · refine lv_iconst (v := 1) hx hb dX3_faultOf_74 (by decide) ?_
          have hF9 : rdFault f n kind mo d hh g k = (1, v_57.2.1, v_57.2.2, v_18.2.2.1, v_18.2.2.2.1, v_18.2.2.2.2, v_28.2.2.1, v_28.2.2.2.1, v_28.2.2.2.2.1, v_28.2.2.2.2.2.1, v_28.2.2.2.2.2.2) := by
            subst e_57
            subst e_28
            subst e_18
            first | (simp only [rdFault, if_neg c_21, if_neg c_31, if_neg c_38, if_pos c_60]; done) | rfl
          have hP9 : va_P (dC, dI) kcl [(h, .inr (3, [.int (rdFault f n kind mo d hh g k).2.1, .int (rdFault f n kind mo d hh g k).2.2.1])), (ar, .inr (0, [.ref ab, .int (nI n)])), (ab, .inl (cB, 242, .inl f)), (hm, .inr (2, [.int (rdFault f n kind mo d hh g k).2.2.2.1, .int (rdFault f n kind mo d hh g k).2.2.2.2.1, .int (rdFault f n kind mo d hh g k).2.2.2.2.2.1, .int (rdFault f n kind mo d hh g k).2.2.2.2.2.2.1, .int (rdFault f n kind mo d hh g k).2.2.2.2.2.2.2.1, .int (rdFault f n kind mo d hh g k).2.2.2.2.2.2.2.2.1, .ref hp, .int (nI (rdFault f n kind mo d hh g k).2.2.2.2.2.2.2.2.2.2)])), (hp, .inl (cP, 242, .inl (rdFault f n kind mo d hh g k).2.2.2.2.2.2.2.2.2.1))] H := by
            try rw [hF9]
            exact hP.sub [2, 3, 4, 0, 1] rfl
          have hD9 : va_D A [(h, .inr (3, [.int (rdFault f n kind mo d hh g k).2.1, .int (rdFault f n kind mo d hh g k).2.2.1])), (ar, .inr (0, [.ref ab, .int (nI n)])), (ab, .inl (cB, 242, .inl f)), (hm, .inr (2, [.int (rdFault f n kind mo d hh g k).2.2.2.1, .int (rdFault f n kind mo d hh g k).2.2.2.2.1, .int (rdFault f n kind mo d hh g k).2.2.2.2.2.1, .int (rdFault f n kind mo d hh g k).2.2.2.2.2.2.1, .int (rdFault f n kind mo d hh g k).2.2.2.2.2.2.2.1, .int (rdFault f n kind mo d hh g k).2.2.2.2.2.2.2.2.1, .ref hp, .int (nI (rdFault f n kind mo d hh g k).2.2.2.2.2.2.2.2.2.2)])), (hp, .inl (cP, 242, .inl (rdFault f n kind mo d hh g k).2.2.2.2.2.2.2.2.2.1))] := by
            try rw [hF9]
            exact hD.sub [2, 3, 4, 0, 1] (by decide) rfl
          have hv9 : (1 : Int32) = (rdFault f n kind mo d hh g k).1 := by
            try rw [hF9]
            try rfl
          exact kc_iret hx hb hr hlocks hv9 hP9 hD9 hS dX3_faultOf_75
        · refine lv_aload_n hx hb dX3_faultOf_63 rfl (lv_at hl 0 rfl) ?_
          refine va_get (D := (dC, dI)) (ci := 3) (v := .int v_57.2.1) (C := RX3) (T := TX3) (N := 2) hx hb hts kin_3 hown hK hP 2 rfl rfl 0 (by decide) (hts _ (kcm kwm_61)) (fun _ h9 => h9) rfl dX3_faultOf_64 ?_
          refine lv_aload_n hx hb dX3_faultOf_67 rfl (lv_at hl 1 rfl) ?_
          refine va_getN (D := (dC, dI)) (ci := 0) (v := .int (nI n)) (C := RX0) (T := TX0) (N := 2) hx hb hts kin_0 hown hK hP 3 rfl rfl 1 (by decide) (kg_use hG (List.mem_of_getElem? (i := 5) (a := Cond.fieldLinkNest RX3 30 "ClockTexts$ByteRow" "length" "I" "ClockTexts") rfl)) (fun _ h9 => h9) rfl dX3_faultOf_68 ?_
          refine lv_icmp_eq (tgt := 76) hx hb dX3_faultOf_71 (by decide) (fun c_71 => ?_) (fun c_71 => ?_)
          · refine lv_aload_n hx hb dX3_faultOf_76 rfl (lv_at hl 3 rfl) ?_
            refine lv_aload_n hx hb dX3_faultOf_77 rfl (lv_at hl 0 rfl) ?_
            refine va_get (D := (dC, dI)) (ci := 3) (v := .int v_57.2.2) (C := RX3) (T := TX3) (N := 2) hx hb hts kin_3 hown hK hP 2 rfl rfl 1 (by decide) (hts _ (kcm kwm_63)) (fun _ h9 => h9) rfl dX3_faultOf_78 ?_
            refine lv_ineg hx hb dX3_faultOf_81 ?_
            have hPc := hP.sub (ws' := [(hm, .inr (2, [.int v_18.2.2.1, .int v_18.2.2.2.1, .int v_18.2.2.2.2, .int v_28.2.2.1, .int v_28.2.2.2.1, .int v_28.2.2.2.2.1, .ref hp, .int (nI v_28.2.2.2.2.2.2)]))]) [0] rfl
            have hDc := hD.sub (ws' := [(hm, .inr (2, [.int v_18.2.2.1, .int v_18.2.2.2.1, .int v_18.2.2.2.2, .int v_28.2.2.1, .int v_28.2.2.2.1, .int v_28.2.2.2.2.1, .ref hp, .int (nI v_28.2.2.2.2.2.2)]))]) [0] (by decide) rfl
            have hKc := hK.sub (tys' := []) [] rfl
            have hFc := va_free (wc := [(hm, .inr (2, [.int v_18.2.2.1, .int v_18.2.2.2.1, .int v_18.2.2.2.2, .int v_28.2.2.1, .int v_28.2.2.2.1, .int v_28.2.2.2.2.1, .ref hp, .int (nI v_28.2.2.2.2.2.2)]))]) hD hS hA [0] rfl
            refine kc_callv (wr := [(hp, .inl (cP, 242, .inl v_28.2.2.2.2.2.1)), (h, .inr (3, [.int v_57.2.1, .int v_57.2.2])), (ar, .inr (0, [.ref ab, .int (nI n)])), (ab, .inl (cB, 242, .inl f))]) (w1 := [(hm, .inr (2, [.int (movBy v_18.2.2.1 v_18.2.2.2.1 v_18.2.2.2.2 v_28.2.2.1 v_28.2.2.2.1 (-v_57.2.2)).1, .int (movBy v_18.2.2.1 v_18.2.2.2.1 v_18.2.2.2.2 v_28.2.2.1 v_28.2.2.2.1 (-v_57.2.2)).2.1, .int (movBy v_18.2.2.1 v_18.2.2.2.1 v_18.2.2.2.2 v_28.2.2.1 v_28.2.2.2.1 (-v_57.2.2)).2.2.1, .int (movBy v_18.2.2.1 v_18.2.2.2.1 v_18.2.2.2.2 v_28.2.2.1 v_28.2.2.2.1 (-v_57.2.2)).2.2.2.1, .int (movBy v_18.2.2.1 v_18.2.2.2.1 v_18.2.2.2.2 v_28.2.2.1 v_28.2.2.2.1 (-v_57.2.2)).2.2.2.2, .int v_28.2.2.2.2.1, .ref hp, .int (nI v_28.2.2.2.2.2.2)]))]) (va_runV (As := [.int (-v_57.2.2)]) (rest := []) ⟨hx, hb, hml, hown, hts⟩ (c_Mo_moveBy l dC dI st H.size hm v_18.2.2.1 v_18.2.2.2.1 v_18.2.2.2.2 v_28.2.2.1 v_28.2.2.2.1 v_28.2.2.2.2.1 hp v_28.2.2.2.2.2.2 (-v_57.2.2) ) (cwV 1 hts (kwV kwm_97 kwm_98 kwm_99 kwm_21 kwm_96) rfl rfl rfl (by decide +kernel) ⟨Nat.le_of_ble_eq_true rfl, Nat.le_of_ble_eq_true rfl⟩) ⟨kc_blind, va_recv hKc hPc (ci := 2) (q0 := 0) rfl rfl, kc_pre hG hS hFc hKc hPc hDc⟩ rfl rfl hl.1 rfl (lv_room (Nat.le_of_ble_eq_true rfl)) dX3_faultOf_82 ⟨Nat.le_of_ble_eq_true rfl, Nat.le_of_ble_eq_true rfl⟩) hP hD hS hFc [0] [1, 2, 3, 4] rfl rfl (by decide) (by decide) (fun H locs hP hD hS => ?_)
            have hP : va_P (dC, dI) kcl [(hp, .inl (cP, 242, .inl v_28.2.2.2.2.2.1)), (h, .inr (3, [.int v_57.2.1, .int v_57.2.2])), (ar, .inr (0, [.ref ab, .int (nI n)])), (ab, .inl (cB, 242, .inl f)), (hm, .inr (2, [.int (movBy v_18.2.2.1 v_18.2.2.2.1 v_18.2.2.2.2 v_28.2.2.1 v_28.2.2.2.1 (-v_57.2.2)).1, .int (movBy v_18.2.2.1 v_18.2.2.2.1 v_18.2.2.2.2 v_28.2.2.1 v_28.2.2.2.1 (-v_57.2.2)).2.1, .int (movBy v_18.2.2.1 v_18.2.2.2.1 v_18.2.2.2.2 v_28.2.2.1 v_28.2.2.2.1 (-v_57.2.2)).2.2.1, .int (movBy v_18.2.2.1 v_18.2.2.2.1 v_18.2.2.2.2 v_28.2.2.1 v_28.2.2.2.1 (-v_57.2.2)).2.2.2.1, .int (movBy v_18.2.2.1 v_18.2.2.2.1 v_18.2.2.2.2 v_28.2.2.1 v_28.2.2.2.1 (-v_57.2.2)).2.2.2.2, .int v_28.2.2.2.2.1, .ref hp, .int (nI v_28.2.2.2.2.2.2)]))] H := hP
            have hD : va_D A [(hp, .inl (cP, 242, .inl v_28.2.2.2.2.2.1)), (h, .inr (3, [.int v_57.2.1, .int v_57.2.2])), (ar, .inr (0, [.ref ab, .int (nI n)])), (ab, .inl (cB, 242, .inl f)), (hm, .inr (2, [.int (movBy v_18.2.2.1 v_18.2.2.2.1 v_18.2.2.2.2 v_28.2.2.1 v_28.2.2.2.1 (-v_57.2.2)).1, .int (movBy v_18.2.2.1 v_18.2.2.2.1 v_18.2.2.2.2 v_28.2.2.1 v_28.2.2.2.1 (-v_57.2.2)).2.1, .int (movBy v_18.2.2.1 v_18.2.2.2.1 v_18.2.2.2.2 v_28.2.2.1 v_28.2.2.2.1 (-v_57.2.2)).2.2.1, .int (movBy v_18.2.2.1 v_18.2.2.2.1 v_18.2.2.2.2 v_28.2.2.1 v_28.2.2.2.1 (-v_57.2.2)).2.2.2.1, .int (movBy v_18.2.2.1 v_18.2.2.2.1 v_18.2.2.2.2 v_28.2.2.1 v_28.2.2.2.1 (-v_57.2.2)).2.2.2.2, .int v_28.2.2.2.2.1, .ref hp, .int (nI v_28.2.2.2.2.2.2)]))] := hD
            generalize e_82 : movBy v_18.2.2.1 v_18.2.2.2.1 v_18.2.2.2.2 v_28.2.2.1 v_28.2.2.2.1 (-v_57.2.2) = v_82 at hP hD ⊢
            have hP : va_P (dC, dI) kcl [(hp, .inl (cP, 242, .inl v_28.2.2.2.2.2.1)), (h, .inr (3, [.int v_57.2.1, .int v_57.2.2])), (ar, .inr (0, [.ref ab, .int (nI n)])), (ab, .inl (cB, 242, .inl f)), (hm, .inr (2, [.int v_82.1, .int v_82.2.1, .int v_82.2.2.1, .int v_82.2.2.2.1, .int v_82.2.2.2.2, .int v_28.2.2.2.2.1, .ref hp, .int (nI v_28.2.2.2.2.2.2)]))] H := hP
            have hD : va_D A [(hp, .inl (cP, 242, .inl v_28.2.2.2.2.2.1)), (h, .inr (3, [.int v_57.2.1, .int v_57.2.2])), (ar, .inr (0, [.ref ab, .int (nI n)])), (ab, .inl (cB, 242, .inl f)), (hm, .inr (2, [.int v_82.1, .int v_82.2.1, .int v_82.2.2.1, .int v_82.2.2.2.1, .int v_82.2.2.2.2, .int v_28.2.2.2.2.1, .ref hp, .int (nI v_28.2.2.2.2.2.2)]))] := hD
            refine lv_iload_n hx hb dX3_faultOf_85 rfl (lv_at hl 2 rfl) ?_
            refine lv_aload_n hx hb dX3_faultOf_86 rfl (lv_at hl 3 rfl) ?_
            refine va_getN (D := (dC, dI)) (ci := 2) (v := .int v_82.1) (C := RX2) (T := TX2) (N := 8) hx hb hts kin_2 hown hK hP 4 rfl rfl 0 (by decide) (kg_use hG (List.mem_of_getElem? (i := 6) (a := Cond.fieldLinkNest RX3 43 "ClockTexts$Moment" "year" "I" "ClockTexts") rfl)) (fun _ h9 => h9) rfl dX3_faultOf_87 ?_
            have hPc := hP.sub (ws' := []) [] rfl
            have hDc := hD.sub (ws' := []) [] (by decide) rfl
            have hKc := hK.sub (tys' := []) [] rfl
            have hFc := va_free (wc := []) hD hS hA [] rfl
            refine kc_callSi (val := bI (yFits kind v_82.1)) (va_runS (As := [.int kind, .int v_82.1]) (rest := []) ⟨hx, hb, hml, hown, hts⟩ (c_Rd_yearFits l dC dI st H.size kind v_82.1 ) (va_cwS 2 hts (kwS kwm_101 kwm_102 kwm_52 kwm_100) rfl rfl rfl (by decide +kernel) ⟨Nat.le_of_ble_eq_true rfl, Nat.le_of_ble_eq_true rfl⟩) ⟨kc_blind, kc_pre hG hS hFc hKc hPc hDc⟩ rfl rfl hl.1 rfl (lv_room (Nat.le_of_ble_eq_true rfl)) dX3_faultOf_90 ⟨Nat.le_of_ble_eq_true rfl, Nat.le_of_ble_eq_true rfl⟩) ?_
            refine lv_if_eq (tgt := 100) hx hb dX3_faultOf_93 (by decide) (fun c_93 => ?_) (fun c_93 => ?_)
            · refine lv_iconst (v := 3) hx hb dX3_faultOf_100 (by decide) ?_
              have hF9 : rdFault f n kind mo d hh g k = (3, v_57.2.1, v_57.2.2, v_82.1, v_82.2.1, v_82.2.2.1, v_82.2.2.2.1, v_82.2.2.2.2, v_28.2.2.2.2.1, v_28.2.2.2.2.2.1, v_28.2.2.2.2.2.2) := by
                subst e_82
                subst e_57
                subst e_28
                subst e_18
                first | (simp only [rdFault, if_neg c_21, if_neg c_31, if_neg c_38, if_neg c_60, if_pos c_71, if_pos c_93]; done) | rfl
              have hP9 : va_P (dC, dI) kcl [(h, .inr (3, [.int (rdFault f n kind mo d hh g k).2.1, .int (rdFault f n kind mo d hh g k).2.2.1])), (ar, .inr (0, [.ref ab, .int (nI n)])), (ab, .inl (cB, 242, .inl f)), (hm, .inr (2, [.int (rdFault f n kind mo d hh g k).2.2.2.1, .int (rdFault f n kind mo d hh g k).2.2.2.2.1, .int (rdFault f n kind mo d hh g k).2.2.2.2.2.1, .int (rdFault f n kind mo d hh g k).2.2.2.2.2.2.1, .int (rdFault f n kind mo d hh g k).2.2.2.2.2.2.2.1, .int (rdFault f n kind mo d hh g k).2.2.2.2.2.2.2.2.1, .ref hp, .int (nI (rdFault f n kind mo d hh g k).2.2.2.2.2.2.2.2.2.2)])), (hp, .inl (cP, 242, .inl (rdFault f n kind mo d hh g k).2.2.2.2.2.2.2.2.2.1))] H := by
                try rw [hF9]
                exact hP.sub [1, 2, 3, 4, 0] rfl
              have hD9 : va_D A [(h, .inr (3, [.int (rdFault f n kind mo d hh g k).2.1, .int (rdFault f n kind mo d hh g k).2.2.1])), (ar, .inr (0, [.ref ab, .int (nI n)])), (ab, .inl (cB, 242, .inl f)), (hm, .inr (2, [.int (rdFault f n kind mo d hh g k).2.2.2.1, .int (rdFault f n kind mo d hh g k).2.2.2.2.1, .int (rdFault f n kind mo d hh g k).2.2.2.2.2.1, .int (rdFault f n kind mo d hh g k).2.2.2.2.2.2.1, .int (rdFault f n kind mo d hh g k).2.2.2.2.2.2.2.1, .int (rdFault f n kind mo d hh g k).2.2.2.2.2.2.2.2.1, .ref hp, .int (nI (rdFault f n kind mo d hh g k).2.2.2.2.2.2.2.2.2.2)])), (hp, .inl (cP, 242, .inl (rdFault f n kind mo d hh g k).2.2.2.2.2.2.2.2.2.1))] := by
                try rw [hF9]
                exact hD.sub [1, 2, 3, 4, 0] (by decide) rfl
              have hv9 : (3 : Int32) = (rdFault f n kind mo d hh g k).1 := by
                try rw [hF9]
                try rfl
              exact kc_iret hx hb hr hlocks hv9 hP9 hD9 hS dX3_faultOf_101
            · refine lv_iconst (v := 0) hx hb dX3_faultOf_96 (by decide) ?_
              refine lv_goto (tgt := 101) hx hb dX3_faultOf_97 (by decide) ?_
              have hF9 : rdFault f n kind mo d hh g k = (0, v_57.2.1, v_57.2.2, v_82.1, v_82.2.1, v_82.2.2.1, v_82.2.2.2.1, v_82.2.2.2.2, v_28.2.2.2.2.1, v_28.2.2.2.2.2.1, v_28.2.2.2.2.2.2) := by
                subst e_82
                subst e_57
                subst e_28
                subst e_18
                first | (simp only [rdFault, if_neg c_21, if_neg c_31, if_neg c_38, if_neg c_60, if_pos c_71, if_neg c_93]; done) | rfl
              have hP9 : va_P (dC, dI) kcl [(h, .inr (3, [.int (rdFault f n kind mo d hh g k).2.1, .int (rdFault f n kind mo d hh g k).2.2.1])), (ar, .inr (0, [.ref ab, .int (nI n)])), (ab, .inl (cB, 242, .inl f)), (hm, .inr (2, [.int (rdFault f n kind mo d hh g k).2.2.2.1, .int (rdFault f n kind mo d hh g k).2.2.2.2.1, .int (rdFault f n kind mo d hh g k).2.2.2.2.2.1, .int (rdFault f n kind mo d hh g k).2.2.2.2.2.2.1, .int (rdFault f n kind mo d hh g k).2.2.2.2.2.2.2.1, .int (rdFault f n kind mo d hh g k).2.2.2.2.2.2.2.2.1, .ref hp, .int (nI (rdFault f n kind mo d hh g k).2.2.2.2.2.2.2.2.2.2)])), (hp, .inl (cP, 242, .inl (rdFault f n kind mo d hh g k).2.2.2.2.2.2.2.2.2.1))] H := by
                try rw [hF9]
                exact hP.sub [1, 2, 3, 4, 0] rfl
              have hD9 : va_D A [(h, .inr (3, [.int (rdFault f n kind mo d hh g k).2.1, .int (rdFault f n kind mo d hh g k).2.2.1])), (ar, .inr (0, [.ref ab, .int (nI n)])), (ab, .inl (cB, 242, .inl f)), (hm, .inr (2, [.int (rdFault f n kind mo d hh g k).2.2.2.1, .int (rdFault f n kind mo d hh g k).2.2.2.2.1, .int (rdFault f n kind mo d hh g k).2.2.2.2.2.1, .int (rdFault f n kind mo d hh g k).2.2.2.2.2.2.1, .int (rdFault f n kind mo d hh g k).2.2.2.2.2.2.2.1, .int (rdFault f n kind mo d hh g k).2.2.2.2.2.2.2.2.1, .ref hp, .int (nI (rdFault f n kind mo d hh g k).2.2.2.2.2.2.2.2.2.2)])), (hp, .inl (cP, 242, .inl (rdFault f n kind mo d hh g k).2.2.2.2.2.2.2.2.2.1))] := by
                try rw [hF9]
                exact hD.sub [1, 2, 3, 4, 0] (by decide) rfl
              have hv9 : (0 : Int32) = (rdFault f n kind mo d hh g k).1 := by
                try rw [hF9]
                try rfl
              exact kc_iret hx hb hr hlocks hv9 hP9 hD9 hS dX3_faultOf_101
          · refine lv_iconst (v := 1) hx hb dX3_faultOf_74 (by decide) ?_
            have hF9 : rdFault f n kind mo d hh g k = (1, v_57.2.1, v_57.2.2, v_18.2.2.1, v_18.2.2.2.1, v_18.2.2.2.2, v_28.2.2.1, v_28.2.2.2.1, v_28.2.2.2.2.1, v_28.2.2.2.2.2.1, v_28.2.2.2.2.2.2) := by
              subst e_57
              subst e_28
              subst e_18
              first | (simp only [rdFault, if_neg c_21, if_neg c_31, if_neg c_38, if_neg c_60, if_neg c_71]; done) | rfl
            have hP9 : va_P (dC, dI) kcl [(h, .inr (3, [.int (rdFault f n kind mo d hh g k).2.1, .int (rdFault f n kind mo d hh g k).2.2.1])), (ar, .inr (0, [.ref ab, .int (nI n)])), (ab, .inl (cB, 242, .inl f)), (hm, .inr (2, [.int (rdFault f n kind mo d hh g k).2.2.2.1, .int (rdFault f n kind mo d hh g k).2.2.2.2.1, .int (rdFault f n kind mo d hh g k).2.2.2.2.2.1, .int (rdFault f n kind mo d hh g k).2.2.2.2.2.2.1, .int (rdFault f n kind mo d hh g k).2.2.2.2.2.2.2.1, .int (rdFault f n kind mo d hh g k).2.2.2.2.2.2.2.2.1, .ref hp, .int (nI (rdFault f n kind mo d hh g k).2.2.2.2.2.2.2.2.2.2)])), (hp, .inl (cP, 242, .inl (rdFault f n kind mo d hh g k).2.2.2.2.2.2.2.2.2.1))] H := by
              try rw [hF9]
              exact hP.sub [2, 3, 4, 0, 1] rfl
            have hD9 : va_D A [(h, .inr (3, [.int (rdFault f n kind mo d hh g k).2.1, .int (rdFault f n kind mo d hh g k).2.2.1])), (ar, .inr (0, [.ref ab, .int (nI n)])), (ab, .inl (cB, 242, .inl f)), (hm, .inr (2, [.int (rdFault f n kind mo d hh g k).2.2.2.1, .int (rdFault f n kind mo d hh g k).2.2.2.2.1, .int (rdFault f n kind mo d hh g k).2.2.2.2.2.1, .int (rdFault f n kind mo d hh g k).2.2.2.2.2.2.1, .int (rdFault f n kind mo d hh g k).2.2.2.2.2.2.2.1, .int (rdFault f n kind mo d hh g k).2.2.2.2.2.2.2.2.1, .ref hp, .int (nI (rdFault f n kind mo d hh g k).2.2.2.2.2.2.2.2.2.2)])), (hp, .inl (cP, 242, .inl (rdFault f n kind mo d hh g k).2.2.2.2.2.2.2.2.2.1))] := by
              try rw [hF9]
              exact hD.sub [2, 3, 4, 0, 1] (by decide) rfl
            have hv9 : (1 : Int32) = (rdFault f n kind mo d hh g k).1 := by
              try rw [hF9]
              try rfl
            exact kc_iret hx hb hr hlocks hv9 hP9 hD9 hS dX3_faultOf_75
      · refine lv_aload_n hx hb dX3_faultOf_41 rfl (lv_at hl 0 rfl) ?_
        refine va_get (D := (dC, dI)) (ci := 3) (v := .int v_28.2.1) (C := RX3) (T := TX3) (N := 2) hx hb hts kin_3 hown hK hP 0 rfl rfl 0 (by decide) (hts _ (kcm kwm_61)) (fun _ h9 => h9) rfl dX3_faultOf_42 ?_
        refine lv_aload_n hx hb dX3_faultOf_45 rfl (lv_at hl 1 rfl) ?_
        refine va_getN (D := (dC, dI)) (ci := 0) (v := .int (nI n)) (C := RX0) (T := TX0) (N := 2) hx hb hts kin_0 hown hK hP 1 rfl rfl 1 (by decide) (kg_use hG (List.mem_of_getElem? (i := 5) (a := Cond.fieldLinkNest RX3 30 "ClockTexts$ByteRow" "length" "I" "ClockTexts") rfl)) (fun _ h9 => h9) rfl dX3_faultOf_46 ?_
        refine lv_icmp_ne (tgt := 54) hx hb dX3_faultOf_49 (by decide) (fun c_49 => ?_) (fun c_49 => ?_)
        · refine lv_aload_n hx hb dX3_faultOf_54 rfl (lv_at hl 0 rfl) ?_
          refine lv_aload_n hx hb dX3_faultOf_55 rfl (lv_at hl 1 rfl) ?_
          refine lv_iload_n hx hb dX3_faultOf_56 rfl (lv_at hl 2 rfl) ?_
          have hPc := hP.sub (ws' := [(h, .inr (3, [.int v_28.2.1, .int 0])), (ar, .inr (0, [.ref ab, .int (nI n)])), (ab, .inl (cB, 242, .inl f))]) [0, 1, 2] rfl
          have hDc := hD.sub (ws' := [(h, .inr (3, [.int v_28.2.1, .int 0])), (ar, .inr (0, [.ref ab, .int (nI n)])), (ab, .inl (cB, 242, .inl f))]) [0, 1, 2] (by decide) rfl
          have hKc := hK.sub (tys' := [(cB, .byte)]) [0] rfl
          have hFc := va_free (wc := [(h, .inr (3, [.int v_28.2.1, .int 0])), (ar, .inr (0, [.ref ab, .int (nI n)])), (ab, .inl (cB, 242, .inl f))]) hD hS hA [0, 1, 2] rfl
          refine kc_calli (val := bI (rdZone f n kind v_28.2.1 0).1) (wr := [(hm, .inr (2, [.int v_18.2.2.1, .int v_18.2.2.2.1, .int v_18.2.2.2.2, .int v_28.2.2.1, .int v_28.2.2.2.1, .int v_28.2.2.2.2.1, .ref hp, .int (nI v_28.2.2.2.2.2.2)])), (hp, .inl (cP, 242, .inl v_28.2.2.2.2.2.1))]) (w1 := [(h, .inr (3, [.int (rdZone f n kind v_28.2.1 0).2.1, .int (rdZone f n kind v_28.2.1 0).2.2])), (ar, .inr (0, [.ref ab, .int (nI n)])), (ab, .inl (cB, 242, .inl f))]) (va_runV (As := [.ref ar, .int kind]) (rest := []) ⟨hx, hb, hml, hown, hts⟩ (c_Rd_readZone l dC dI st H.size h ar ab cB f n v_28.2.1 0 kind hn) (cwV 2 hts (kwV kwm_93 kwm_94 kwm_95 kwm_52 kwm_92) rfl rfl rfl (by decide +kernel) ⟨Nat.le_of_ble_eq_true rfl, Nat.le_of_ble_eq_true rfl⟩) ⟨kc_blind, va_recv hKc hPc (ci := 3) (q0 := 0) rfl rfl, kc_pre hG hS hFc hKc hPc hDc⟩ rfl rfl hl.1 rfl (lv_room (Nat.le_of_ble_eq_true rfl)) dX3_faultOf_57 ⟨Nat.le_of_ble_eq_true rfl, Nat.le_of_ble_eq_true rfl⟩) hP hD hS hFc [0, 1, 2] [3, 4] rfl rfl (by decide) (by decide) (fun H locs hP hD hS => ?_)
          have hP : va_P (dC, dI) kcl [(hm, .inr (2, [.int v_18.2.2.1, .int v_18.2.2.2.1, .int v_18.2.2.2.2, .int v_28.2.2.1, .int v_28.2.2.2.1, .int v_28.2.2.2.2.1, .ref hp, .int (nI v_28.2.2.2.2.2.2)])), (hp, .inl (cP, 242, .inl v_28.2.2.2.2.2.1)), (h, .inr (3, [.int (rdZone f n kind v_28.2.1 0).2.1, .int (rdZone f n kind v_28.2.1 0).2.2])), (ar, .inr (0, [.ref ab, .int (nI n)])), (ab, .inl (cB, 242, .inl f))] H := hP
          have hD : va_D A [(hm, .inr (2, [.int v_18.2.2.1, .int v_18.2.2.2.1, .int v_18.2.2.2.2, .int v_28.2.2.1, .int v_28.2.2.2.1, .int v_28.2.2.2.2.1, .ref hp, .int (nI v_28.2.2.2.2.2.2)])), (hp, .inl (cP, 242, .inl v_28.2.2.2.2.2.1)), (h, .inr (3, [.int (rdZone f n kind v_28.2.1 0).2.1, .int (rdZone f n kind v_28.2.1 0).2.2])), (ar, .inr (0, [.ref ab, .int (nI n)])), (ab, .inl (cB, 242, .inl f))] := hD
          generalize e_57 : rdZone f n kind v_28.2.1 0 = v_57 at hP hD ⊢
          have hP : va_P (dC, dI) kcl [(hm, .inr (2, [.int v_18.2.2.1, .int v_18.2.2.2.1, .int v_18.2.2.2.2, .int v_28.2.2.1, .int v_28.2.2.2.1, .int v_28.2.2.2.2.1, .ref hp, .int (nI v_28.2.2.2.2.2.2)])), (hp, .inl (cP, 242, .inl v_28.2.2.2.2.2.1)), (h, .inr (3, [.int v_57.2.1, .int v_57.2.2])), (ar, .inr (0, [.ref ab, .int (nI n)])), (ab, .inl (cB, 242, .inl f))] H := hP
          have hD : va_D A [(hm, .inr (2, [.int v_18.2.2.1, .int v_18.2.2.2.1, .int v_18.2.2.2.2, .int v_28.2.2.1, .int v_28.2.2.2.1, .int v_28.2.2.2.2.1, .ref hp, .int (nI v_28.2.2.2.2.2.2)])), (hp, .inl (cP, 242, .inl v_28.2.2.2.2.2.1)), (h, .inr (3, [.int v_57.2.1, .int v_57.2.2])), (ar, .inr (0, [.ref ab, .int (nI n)])), (ab, .inl (cB, 242, .inl f))] := hD
          refine lv_if_eq (tgt := 74) hx hb dX3_faultOf_60 (by decide) (fun c_60 => ?_) (fun c_60 => ?_)
          · refine lv_iconst (v := 1) hx hb dX3_faultOf_74 (by decide) ?_
            have hF9 : rdFault f n kind mo d hh g k = (1, v_57.2.1, v_57.2.2, v_18.2.2.1, v_18.2.2.2.1, v_18.2.2.2.2, v_28.2.2.1, v_28.2.2.2.1, v_28.2.2.2.2.1, v_28.2.2.2.2.2.1, v_28.2.2.2.2.2.2) := by
              subst e_57
              subst e_28
              subst e_18
              first | (simp only [rdFault, if_neg c_21, if_neg c_31, if_pos c_38, if_neg c_49, if_pos c_60]; done) | rfl
            have hP9 : va_P (dC, dI) kcl [(h, .inr (3, [.int (rdFault f n kind mo d hh g k).2.1, .int (rdFault f n kind mo d hh g k).2.2.1])), (ar, .inr (0, [.ref ab, .int (nI n)])), (ab, .inl (cB, 242, .inl f)), (hm, .inr (2, [.int (rdFault f n kind mo d hh g k).2.2.2.1, .int (rdFault f n kind mo d hh g k).2.2.2.2.1, .int (rdFault f n kind mo d hh g k).2.2.2.2.2.1, .int (rdFault f n kind mo d hh g k).2.2.2.2.2.2.1, .int (rdFault f n kind mo d hh g k).2.2.2.2.2.2.2.1, .int (rdFault f n kind mo d hh g k).2.2.2.2.2.2.2.2.1, .ref hp, .int (nI (rdFault f n kind mo d hh g k).2.2.2.2.2.2.2.2.2.2)])), (hp, .inl (cP, 242, .inl (rdFault f n kind mo d hh g k).2.2.2.2.2.2.2.2.2.1))] H := by
              try rw [hF9]
              exact hP.sub [2, 3, 4, 0, 1] rfl
            have hD9 : va_D A [(h, .inr (3, [.int (rdFault f n kind mo d hh g k).2.1, .int (rdFault f n kind mo d hh g k).2.2.1])), (ar, .inr (0, [.ref ab, .int (nI n)])), (ab, .inl (cB, 242, .inl f)), (hm, .inr (2, [.int (rdFault f n kind mo d hh g k).2.2.2.1, .int (rdFault f n kind mo d hh g k).2.2.2.2.1, .int (rdFault f n kind mo d hh g k).2.2.2.2.2.1, .int (rdFault f n kind mo d hh g k).2.2.2.2.2.2.1, .int (rdFault f n kind mo d hh g k).2.2.2.2.2.2.2.1, .int (rdFault f n kind mo d hh g k).2.2.2.2.2.2.2.2.1, .ref hp, .int (nI (rdFault f n kind mo d hh g k).2.2.2.2.2.2.2.2.2.2)])), (hp, .inl (cP, 242, .inl (rdFault f n kind mo d hh g k).2.2.2.2.2.2.2.2.2.1))] := by
              try rw [hF9]
              exact hD.sub [2, 3, 4, 0, 1] (by decide) rfl
            have hv9 : (1 : Int32) = (rdFault f n kind mo d hh g k).1 := by
              try rw [hF9]
              try rfl
            exact kc_iret hx hb hr hlocks hv9 hP9 hD9 hS dX3_faultOf_75
          · refine lv_aload_n hx hb dX3_faultOf_63 rfl (lv_at hl 0 rfl) ?_
            refine va_get (D := (dC, dI)) (ci := 3) (v := .int v_57.2.1) (C := RX3) (T := TX3) (N := 2) hx hb hts kin_3 hown hK hP 2 rfl rfl 0 (by decide) (hts _ (kcm kwm_61)) (fun _ h9 => h9) rfl dX3_faultOf_64 ?_
            refine lv_aload_n hx hb dX3_faultOf_67 rfl (lv_at hl 1 rfl) ?_
            refine va_getN (D := (dC, dI)) (ci := 0) (v := .int (nI n)) (C := RX0) (T := TX0) (N := 2) hx hb hts kin_0 hown hK hP 3 rfl rfl 1 (by decide) (kg_use hG (List.mem_of_getElem? (i := 5) (a := Cond.fieldLinkNest RX3 30 "ClockTexts$ByteRow" "length" "I" "ClockTexts") rfl)) (fun _ h9 => h9) rfl dX3_faultOf_68 ?_
            refine lv_icmp_eq (tgt := 76) hx hb dX3_faultOf_71 (by decide) (fun c_71 => ?_) (fun c_71 => ?_)
            · refine lv_aload_n hx hb dX3_faultOf_76 rfl (lv_at hl 3 rfl) ?_
              refine lv_aload_n hx hb dX3_faultOf_77 rfl (lv_at hl 0 rfl) ?_
              refine va_get (D := (dC, dI)) (ci := 3) (v := .int v_57.2.2) (C := RX3) (T := TX3) (N := 2) hx hb hts kin_3 hown hK hP 2 rfl rfl 1 (by decide) (hts _ (kcm kwm_63)) (fun _ h9 => h9) rfl dX3_faultOf_78 ?_
              refine lv_ineg hx hb dX3_faultOf_81 ?_
              have hPc := hP.sub (ws' := [(hm, .inr (2, [.int v_18.2.2.1, .int v_18.2.2.2.1, .int v_18.2.2.2.2, .int v_28.2.2.1, .int v_28.2.2.2.1, .int v_28.2.2.2.2.1, .ref hp, .int (nI v_28.2.2.2.2.2.2)]))]) [0] rfl
              have hDc := hD.sub (ws' := [(hm, .inr (2, [.int v_18.2.2.1, .int v_18.2.2.2.1, .int v_18.2.2.2.2, .int v_28.2.2.1, .int v_28.2.2.2.1, .int v_28.2.2.2.2.1, .ref hp, .int (nI v_28.2.2.2.2.2.2)]))]) [0] (by decide) rfl
              have hKc := hK.sub (tys' := []) [] rfl
              have hFc := va_free (wc := [(hm, .inr (2, [.int v_18.2.2.1, .int v_18.2.2.2.1, .int v_18.2.2.2.2, .int v_28.2.2.1, .int v_28.2.2.2.1, .int v_28.2.2.2.2.1, .ref hp, .int (nI v_28.2.2.2.2.2.2)]))]) hD hS hA [0] rfl
              refine kc_callv (wr := [(hp, .inl (cP, 242, .inl v_28.2.2.2.2.2.1)), (h, .inr (3, [.int v_57.2.1, .int v_57.2.2])), (ar, .inr (0, [.ref ab, .int (nI n)])), (ab, .inl (cB, 242, .inl f))]) (w1 := [(hm, .inr (2, [.int (movBy v_18.2.2.1 v_18.2.2.2.1 v_18.2.2.2.2 v_28.2.2.1 v_28.2.2.2.1 (-v_57.2.2)).1, .int (movBy v_18.2.2.1 v_18.2.2.2.1 v_18.2.2.2.2 v_28.2.2.1 v_28.2.2.2.1 (-v_57.2.2)).2.1, .int (movBy v_18.2.2.1 v_18.2.2.2.1 v_18.2.2.2.2 v_28.2.2.1 v_28.2.2.2.1 (-v_57.2.2)).2.2.1, .int (movBy v_18.2.2.1 v_18.2.2.2.1 v_18.2.2.2.2 v_28.2.2.1 v_28.2.2.2.1 (-v_57.2.2)).2.2.2.1, .int (movBy v_18.2.2.1 v_18.2.2.2.1 v_18.2.2.2.2 v_28.2.2.1 v_28.2.2.2.1 (-v_57.2.2)).2.2.2.2, .int v_28.2.2.2.2.1, .ref hp, .int (nI v_28.2.2.2.2.2.2)]))]) (va_runV (As := [.int (-v_57.2.2)]) (rest := []) ⟨hx, hb, hml, hown, hts⟩ (c_Mo_moveBy l dC dI st H.size hm v_18.2.2.1 v_18.2.2.2.1 v_18.2.2.2.2 v_28.2.2.1 v_28.2.2.2.1 v_28.2.2.2.2.1 hp v_28.2.2.2.2.2.2 (-v_57.2.2) ) (cwV 1 hts (kwV kwm_97 kwm_98 kwm_99 kwm_21 kwm_96) rfl rfl rfl (by decide +kernel) ⟨Nat.le_of_ble_eq_true rfl, Nat.le_of_ble_eq_true rfl⟩) ⟨kc_blind, va_recv hKc hPc (ci := 2) (q0 := 0) rfl rfl, kc_pre hG hS hFc hKc hPc hDc⟩ rfl rfl hl.1 rfl (lv_room (Nat.le_of_ble_eq_true rfl)) dX3_faultOf_82 ⟨Nat.le_of_ble_eq_true rfl, Nat.le_of_ble_eq_true rfl⟩) hP hD hS hFc [0] [1, 2, 3, 4] rfl rfl (by decide) (by decide) (fun H locs hP hD hS => ?_)
              have hP : va_P (dC, dI) kcl [(hp, .inl (cP, 242, .inl v_28.2.2.2.2.2.1)), (h, .inr (3, [.int v_57.2.1, .int v_57.2.2])), (ar, .inr (0, [.ref ab, .int (nI n)])), (ab, .inl (cB, 242, .inl f)), (hm, .inr (2, [.int (movBy v_18.2.2.1 v_18.2.2.2.1 v_18.2.2.2.2 v_28.2.2.1 v_28.2.2.2.1 (-v_57.2.2)).1, .int (movBy v_18.2.2.1 v_18.2.2.2.1 v_18.2.2.2.2 v_28.2.2.1 v_28.2.2.2.1 (-v_57.2.2)).2.1, .int (movBy v_18.2.2.1 v_18.2.2.2.1 v_18.2.2.2.2 v_28.2.2.1 v_28.2.2.2.1 (-v_57.2.2)).2.2.1, .int (movBy v_18.2.2.1 v_18.2.2.2.1 v_18.2.2.2.2 v_28.2.2.1 v_28.2.2.2.1 (-v_57.2.2)).2.2.2.1, .int (movBy v_18.2.2.1 v_18.2.2.2.1 v_18.2.2.2.2 v_28.2.2.1 v_28.2.2.2.1 (-v_57.2.2)).2.2.2.2, .int v_28.2.2.2.2.1, .ref hp, .int (nI v_28.2.2.2.2.2.2)]))] H := hP
              have hD : va_D A [(hp, .inl (cP, 242, .inl v_28.2.2.2.2.2.1)), (h, .inr (3, [.int v_57.2.1, .int v_57.2.2])), (ar, .inr (0, [.ref ab, .int (nI n)])), (ab, .inl (cB, 242, .inl f)), (hm, .inr (2, [.int (movBy v_18.2.2.1 v_18.2.2.2.1 v_18.2.2.2.2 v_28.2.2.1 v_28.2.2.2.1 (-v_57.2.2)).1, .int (movBy v_18.2.2.1 v_18.2.2.2.1 v_18.2.2.2.2 v_28.2.2.1 v_28.2.2.2.1 (-v_57.2.2)).2.1, .int (movBy v_18.2.2.1 v_18.2.2.2.1 v_18.2.2.2.2 v_28.2.2.1 v_28.2.2.2.1 (-v_57.2.2)).2.2.1, .int (movBy v_18.2.2.1 v_18.2.2.2.1 v_18.2.2.2.2 v_28.2.2.1 v_28.2.2.2.1 (-v_57.2.2)).2.2.2.1, .int (movBy v_18.2.2.1 v_18.2.2.2.1 v_18.2.2.2.2 v_28.2.2.1 v_28.2.2.2.1 (-v_57.2.2)).2.2.2.2, .int v_28.2.2.2.2.1, .ref hp, .int (nI v_28.2.2.2.2.2.2)]))] := hD
              generalize e_82 : movBy v_18.2.2.1 v_18.2.2.2.1 v_18.2.2.2.2 v_28.2.2.1 v_28.2.2.2.1 (-v_57.2.2) = v_82 at hP hD ⊢
              have hP : va_P (dC, dI) kcl [(hp, .inl (cP, 242, .inl v_28.2.2.2.2.2.1)), (h, .inr (3, [.int v_57.2.1, .int v_57.2.2])), (ar, .inr (0, [.ref ab, .int (nI n)])), (ab, .inl (cB, 242, .inl f)), (hm, .inr (2, [.int v_82.1, .int v_82.2.1, .int v_82.2.2.1, .int v_82.2.2.2.1, .int v_82.2.2.2.2, .int v_28.2.2.2.2.1, .ref hp, .int (nI v_28.2.2.2.2.2.2)]))] H := hP
              have hD : va_D A [(hp, .inl (cP, 242, .inl v_28.2.2.2.2.2.1)), (h, .inr (3, [.int v_57.2.1, .int v_57.2.2])), (ar, .inr (0, [.ref ab, .int (nI n)])), (ab, .inl (cB, 242, .inl f)), (hm, .inr (2, [.int v_82.1, .int v_82.2.1, .int v_82.2.2.1, .int v_82.2.2.2.1, .int v_82.2.2.2.2, .int v_28.2.2.2.2.1, .ref hp, .int (nI v_28.2.2.2.2.2.2)]))] := hD
              refine lv_iload_n hx hb dX3_faultOf_85 rfl (lv_at hl 2 rfl) ?_
              refine lv_aload_n hx hb dX3_faultOf_86 rfl (lv_at hl 3 rfl) ?_
              refine va_getN (D := (dC, dI)) (ci := 2) (v := .int v_82.1) (C := RX2) (T := TX2) (N := 8) hx hb hts kin_2 hown hK hP 4 rfl rfl 0 (by decide) (kg_use hG (List.mem_of_getElem? (i := 6) (a := Cond.fieldLinkNest RX3 43 "ClockTexts$Moment" "year" "I" "ClockTexts") rfl)) (fun _ h9 => h9) rfl dX3_faultOf_87 ?_
              have hPc := hP.sub (ws' := []) [] rfl
              have hDc := hD.sub (ws' := []) [] (by decide) rfl
              have hKc := hK.sub (tys' := []) [] rfl
              have hFc := va_free (wc := []) hD hS hA [] rfl
              refine kc_callSi (val := bI (yFits kind v_82.1)) (va_runS (As := [.int kind, .int v_82.1]) (rest := []) ⟨hx, hb, hml, hown, hts⟩ (c_Rd_yearFits l dC dI st H.size kind v_82.1 ) (va_cwS 2 hts (kwS kwm_101 kwm_102 kwm_52 kwm_100) rfl rfl rfl (by decide +kernel) ⟨Nat.le_of_ble_eq_true rfl, Nat.le_of_ble_eq_true rfl⟩) ⟨kc_blind, kc_pre hG hS hFc hKc hPc hDc⟩ rfl rfl hl.1 rfl (lv_room (Nat.le_of_ble_eq_true rfl)) dX3_faultOf_90 ⟨Nat.le_of_ble_eq_true rfl, Nat.le_of_ble_eq_true rfl⟩) ?_
              refine lv_if_eq (tgt := 100) hx hb dX3_faultOf_93 (by decide) (fun c_93 => ?_) (fun c_93 => ?_)
              · refine lv_iconst (v := 3) hx hb dX3_faultOf_100 (by decide) ?_
                have hF9 : rdFault f n kind mo d hh g k = (3, v_57.2.1, v_57.2.2, v_82.1, v_82.2.1, v_82.2.2.1, v_82.2.2.2.1, v_82.2.2.2.2, v_28.2.2.2.2.1, v_28.2.2.2.2.2.1, v_28.2.2.2.2.2.2) := by
                  subst e_82
                  subst e_57
                  subst e_28
                  subst e_18
                  first | (simp only [rdFault, if_neg c_21, if_neg c_31, if_pos c_38, if_neg c_49, if_neg c_60, if_pos c_71, if_pos c_93]; done) | rfl
                have hP9 : va_P (dC, dI) kcl [(h, .inr (3, [.int (rdFault f n kind mo d hh g k).2.1, .int (rdFault f n kind mo d hh g k).2.2.1])), (ar, .inr (0, [.ref ab, .int (nI n)])), (ab, .inl (cB, 242, .inl f)), (hm, .inr (2, [.int (rdFault f n kind mo d hh g k).2.2.2.1, .int (rdFault f n kind mo d hh g k).2.2.2.2.1, .int (rdFault f n kind mo d hh g k).2.2.2.2.2.1, .int (rdFault f n kind mo d hh g k).2.2.2.2.2.2.1, .int (rdFault f n kind mo d hh g k).2.2.2.2.2.2.2.1, .int (rdFault f n kind mo d hh g k).2.2.2.2.2.2.2.2.1, .ref hp, .int (nI (rdFault f n kind mo d hh g k).2.2.2.2.2.2.2.2.2.2)])), (hp, .inl (cP, 242, .inl (rdFault f n kind mo d hh g k).2.2.2.2.2.2.2.2.2.1))] H := by
                  try rw [hF9]
                  exact hP.sub [1, 2, 3, 4, 0] rfl
                have hD9 : va_D A [(h, .inr (3, [.int (rdFault f n kind mo d hh g k).2.1, .int (rdFault f n kind mo d hh g k).2.2.1])), (ar, .inr (0, [.ref ab, .int (nI n)])), (ab, .inl (cB, 242, .inl f)), (hm, .inr (2, [.int (rdFault f n kind mo d hh g k).2.2.2.1, .int (rdFault f n kind mo d hh g k).2.2.2.2.1, .int (rdFault f n kind mo d hh g k).2.2.2.2.2.1, .int (rdFault f n kind mo d hh g k).2.2.2.2.2.2.1, .int (rdFault f n kind mo d hh g k).2.2.2.2.2.2.2.1, .int (rdFault f n kind mo d hh g k).2.2.2.2.2.2.2.2.1, .ref hp, .int (nI (rdFault f n kind mo d hh g k).2.2.2.2.2.2.2.2.2.2)])), (hp, .inl (cP, 242, .inl (rdFault f n kind mo d hh g k).2.2.2.2.2.2.2.2.2.1))] := by
                  try rw [hF9]
                  exact hD.sub [1, 2, 3, 4, 0] (by decide) rfl
                have hv9 : (3 : Int32) = (rdFault f n kind mo d hh g k).1 := by
                  try rw [hF9]
                  try rfl
                exact kc_iret hx hb hr hlocks hv9 hP9 hD9 hS dX3_faultOf_101
              · refine lv_iconst (v := 0) hx hb dX3_faultOf_96 (by decide) ?_
                refine lv_goto (tgt := 101) hx hb dX3_faultOf_97 (by decide) ?_
                have hF9 : rdFault f n kind mo d hh g k = (0, v_57.2.1, v_57.2.2, v_82.1, v_82.2.1, v_82.2.2.1, v_82.2.2.2.1, v_82.2.2.2.2, v_28.2.2.2.2.1, v_28.2.2.2.2.2.1, v_28.2.2.2.2.2.2) := by
                  subst e_82
                  subst e_57
                  subst e_28
                  subst e_18
                  first | (simp only [rdFault, if_neg c_21, if_neg c_31, if_pos c_38, if_neg c_49, if_neg c_60, if_pos c_71, if_neg c_93]; done) | rfl
                have hP9 : va_P (dC, dI) kcl [(h, .inr (3, [.int (rdFault f n kind mo d hh g k).2.1, .int (rdFault f n kind mo d hh g k).2.2.1])), (ar, .inr (0, [.ref ab, .int (nI n)])), (ab, .inl (cB, 242, .inl f)), (hm, .inr (2, [.int (rdFault f n kind mo d hh g k).2.2.2.1, .int (rdFault f n kind mo d hh g k).2.2.2.2.1, .int (rdFault f n kind mo d hh g k).2.2.2.2.2.1, .int (rdFault f n kind mo d hh g k).2.2.2.2.2.2.1, .int (rdFault f n kind mo d hh g k).2.2.2.2.2.2.2.1, .int (rdFault f n kind mo d hh g k).2.2.2.2.2.2.2.2.1, .ref hp, .int (nI (rdFault f n kind mo d hh g k).2.2.2.2.2.2.2.2.2.2)])), (hp, .inl (cP, 242, .inl (rdFault f n kind mo d hh g k).2.2.2.2.2.2.2.2.2.1))] H := by
                  try rw [hF9]
                  exact hP.sub [1, 2, 3, 4, 0] rfl
                have hD9 : va_D A [(h, .inr (3, [.int (rdFault f n kind mo d hh g k).2.1, .int (rdFault f n kind mo d hh g k).2.2.1])), (ar, .inr (0, [.ref ab, .int (nI n)])), (ab, .inl (cB, 242, .inl f)), (hm, .inr (2, [.int (rdFault f n kind mo d hh g k).2.2.2.1, .int (rdFault f n kind mo d hh g k).2.2.2.2.1, .int (rdFault f n kind mo d hh g k).2.2.2.2.2.1, .int (rdFault f n kind mo d hh g k).2.2.2.2.2.2.1, .int (rdFault f n kind mo d hh g k).2.2.2.2.2.2.2.1, .int (rdFault f n kind mo d hh g k).2.2.2.2.2.2.2.2.1, .ref hp, .int (nI (rdFault f n kind mo d hh g k).2.2.2.2.2.2.2.2.2.2)])), (hp, .inl (cP, 242, .inl (rdFault f n kind mo d hh g k).2.2.2.2.2.2.2.2.2.1))] := by
                  try rw [hF9]
                  exact hD.sub [1, 2, 3, 4, 0] (by decide) rfl
                have hv9 : (0 : Int32) = (rdFault f n kind mo d hh g k).1 := by
                  try rw [hF9]
                  try rfl
                exact kc_iret hx hb hr hlocks hv9 hP9 hD9 hS dX3_faultOf_101
            · refine lv_iconst (v := 1) hx hb dX3_faultOf_74 (by decide) ?_
              have hF9 : rdFault f n kind mo d hh g k = (1, v_57.2.1, v_57.2.2, v_18.2.2.1, v_18.2.2.2.1, v_18.2.2.2.2, v_28.2.2.1, v_28.2.2.2.1, v_28.2.2.2.2.1, v_28.2.2.2.2.2.1, v_28.2.2.2.2.2.2) := by
                subst e_57
                subst e_28
                subst e_18
                first | (simp only [rdFault, if_neg c_21, if_neg c_31, if_pos c_38, if_neg c_49, if_neg c_60, if_neg c_71]; done) | rfl
              have hP9 : va_P (dC, dI) kcl [(h, .inr (3, [.int (rdFault f n kind mo d hh g k).2.1, .int (rdFault f n kind mo d hh g k).2.2.1])), (ar, .inr (0, [.ref ab, .int (nI n)])), (ab, .inl (cB, 242, .inl f)), (hm, .inr (2, [.int (rdFault f n kind mo d hh g k).2.2.2.1, .int (rdFault f n kind mo d hh g k).2.2.2.2.1, .int (rdFault f n kind mo d hh g k).2.2.2.2.2.1, .int (rdFault f n kind mo d hh g k).2.2.2.2.2.2.1, .int (rdFault f n kind mo d hh g k).2.2.2.2.2.2.2.1, .int (rdFault f n kind mo d hh g k).2.2.2.2.2.2.2.2.1, .ref hp, .int (nI (rdFault f n kind mo d hh g k).2.2.2.2.2.2.2.2.2.2)])), (hp, .inl (cP, 242, .inl (rdFault f n kind mo d hh g k).2.2.2.2.2.2.2.2.2.1))] H := by
                try rw [hF9]
                exact hP.sub [2, 3, 4, 0, 1] rfl
              have hD9 : va_D A [(h, .inr (3, [.int (rdFault f n kind mo d hh g k).2.1, .int (rdFault f n kind mo d hh g k).2.2.1])), (ar, .inr (0, [.ref ab, .int (nI n)])), (ab, .inl (cB, 242, .inl f)), (hm, .inr (2, [.int (rdFault f n kind mo d hh g k).2.2.2.1, .int (rdFault f n kind mo d hh g k).2.2.2.2.1, .int (rdFault f n kind mo d hh g k).2.2.2.2.2.1, .int (rdFault f n kind mo d hh g k).2.2.2.2.2.2.1, .int (rdFault f n kind mo d hh g k).2.2.2.2.2.2.2.1, .int (rdFault f n kind mo d hh g k).2.2.2.2.2.2.2.2.1, .ref hp, .int (nI (rdFault f n kind mo d hh g k).2.2.2.2.2.2.2.2.2.2)])), (hp, .inl (cP, 242, .inl (rdFault f n kind mo d hh g k).2.2.2.2.2.2.2.2.2.1))] := by
                try rw [hF9]
                exact hD.sub [2, 3, 4, 0, 1] (by decide) rfl
              have hv9 : (1 : Int32) = (rdFault f n kind mo d hh g k).1 := by
                try rw [hF9]
                try rfl
              exact kc_iret hx hb hr hlocks hv9 hP9 hD9 hS dX3_faultOf_75
        · refine lv_iconst (v := 2) hx hb dX3_faultOf_52 (by decide) ?_
          have hF9 : rdFault f n kind mo d hh g k = (2, v_28.2.1, 0, v_18.2.2.1, v_18.2.2.2.1, v_18.2.2.2.2, v_28.2.2.1, v_28.2.2.2.1, v_28.2.2.2.2.1, v_28.2.2.2.2.2.1, v_28.2.2.2.2.2.2) := by
            subst e_28
            subst e_18
            first | (simp only [rdFault, if_neg c_21, if_neg c_31, if_pos c_38, if_pos c_49]; done) | rfl
          have hP9 : va_P (dC, dI) kcl [(h, .inr (3, [.int (rdFault f n kind mo d hh g k).2.1, .int (rdFault f n kind mo d hh g k).2.2.1])), (ar, .inr (0, [.ref ab, .int (nI n)])), (ab, .inl (cB, 242, .inl f)), (hm, .inr (2, [.int (rdFault f n kind mo d hh g k).2.2.2.1, .int (rdFault f n kind mo d hh g k).2.2.2.2.1, .int (rdFault f n kind mo d hh g k).2.2.2.2.2.1, .int (rdFault f n kind mo d hh g k).2.2.2.2.2.2.1, .int (rdFault f n kind mo d hh g k).2.2.2.2.2.2.2.1, .int (rdFault f n kind mo d hh g k).2.2.2.2.2.2.2.2.1, .ref hp, .int (nI (rdFault f n kind mo d hh g k).2.2.2.2.2.2.2.2.2.2)])), (hp, .inl (cP, 242, .inl (rdFault f n kind mo d hh g k).2.2.2.2.2.2.2.2.2.1))] H := by
            try rw [hF9]
            exact hP.sub [0, 1, 2, 3, 4] rfl
          have hD9 : va_D A [(h, .inr (3, [.int (rdFault f n kind mo d hh g k).2.1, .int (rdFault f n kind mo d hh g k).2.2.1])), (ar, .inr (0, [.ref ab, .int (nI n)])), (ab, .inl (cB, 242, .inl f)), (hm, .inr (2, [.int (rdFault f n kind mo d hh g k).2.2.2.1, .int (rdFault f n kind mo d hh g k).2.2.2.2.1, .int (rdFault f n kind mo d hh g k).2.2.2.2.2.1, .int (rdFault f n kind mo d hh g k).2.2.2.2.2.2.1, .int (rdFault f n kind mo d hh g k).2.2.2.2.2.2.2.1, .int (rdFault f n kind mo d hh g k).2.2.2.2.2.2.2.2.1, .ref hp, .int (nI (rdFault f n kind mo d hh g k).2.2.2.2.2.2.2.2.2.2)])), (hp, .inl (cP, 242, .inl (rdFault f n kind mo d hh g k).2.2.2.2.2.2.2.2.2.1))] := by
            try rw [hF9]
            exact hD.sub [0, 1, 2, 3, 4] (by decide) rfl
          have hv9 : (2 : Int32) = (rdFault f n kind mo d hh g k).1 := by
            try rw [hF9]
            try rfl
          exact kc_iret hx hb hr hlocks hv9 hP9 hD9 hS dX3_faultOf_53
    · refine lv_iconst (v := 1) hx hb dX3_faultOf_34 (by decide) ?_
      have hF9 : rdFault f n kind mo d hh g k = (1, v_28.2.1, 0, v_18.2.2.1, v_18.2.2.2.1, v_18.2.2.2.2, v_28.2.2.1, v_28.2.2.2.1, v_28.2.2.2.2.1, v_28.2.2.2.2.2.1, v_28.2.2.2.2.2.2) := by
        subst e_28
        subst e_18
        first | (simp only [rdFault, if_neg c_21, if_pos c_31]; done) | rfl
      have hP9 : va_P (dC, dI) kcl [(h, .inr (3, [.int (rdFault f n kind mo d hh g k).2.1, .int (rdFault f n kind mo d hh g k).2.2.1])), (ar, .inr (0, [.ref ab, .int (nI n)])), (ab, .inl (cB, 242, .inl f)), (hm, .inr (2, [.int (rdFault f n kind mo d hh g k).2.2.2.1, .int (rdFault f n kind mo d hh g k).2.2.2.2.1, .int (rdFault f n kind mo d hh g k).2.2.2.2.2.1, .int (rdFault f n kind mo d hh g k).2.2.2.2.2.2.1, .int (rdFault f n kind mo d hh g k).2.2.2.2.2.2.2.1, .int (rdFault f n kind mo d hh g k).2.2.2.2.2.2.2.2.1, .ref hp, .int (nI (rdFault f n kind mo d hh g k).2.2.2.2.2.2.2.2.2.2)])), (hp, .inl (cP, 242, .inl (rdFault f n kind mo d hh g k).2.2.2.2.2.2.2.2.2.1))] H := by
        try rw [hF9]
        exact hP.sub [0, 1, 2, 3, 4] rfl
      have hD9 : va_D A [(h, .inr (3, [.int (rdFault f n kind mo d hh g k).2.1, .int (rdFault f n kind mo d hh g k).2.2.1])), (ar, .inr (0, [.ref ab, .int (nI n)])), (ab, .inl (cB, 242, .inl f)), (hm, .inr (2, [.int (rdFault f n kind mo d hh g k).2.2.2.1, .int (rdFault f n kind mo d hh g k).2.2.2.2.1, .int (rdFault f n kind mo d hh g k).2.2.2.2.2.1, .int (rdFault f n kind mo d hh g k).2.2.2.2.2.2.1, .int (rdFault f n kind mo d hh g k).2.2.2.2.2.2.2.1, .int (rdFault f n kind mo d hh g k).2.2.2.2.2.2.2.2.1, .ref hp, .int (nI (rdFault f n kind mo d hh g k).2.2.2.2.2.2.2.2.2.2)])), (hp, .inl (cP, 242, .inl (rdFault f n kind mo d hh g k).2.2.2.2.2.2.2.2.2.1))] := by
        try rw [hF9]
        exact hD.sub [0, 1, 2, 3, 4] (by decide) rfl
      have hv9 : (1 : Int32) = (rdFault f n kind mo d hh g k).1 := by
        try rw [hF9]
        try rfl
      exact kc_iret hx hb hr hlocks hv9 hP9 hD9 hS dX3_faultOf_35
