set_option maxHeartbeats 4000000 in
set_option maxRecDepth 100000 in
theorem lp_add {p : Program} {l : Launch} {e : Env} {s : State} {m : MethodId} {below : List Frame} {meth : Method} {c : Code} (dC : Nat → ClassId) (dI : Nat → Nat → Nat) (st : Nat) {A : Nat → Prop} (h : Nat) (aw : Nat) (al : Nat) (ap : Nat) (ao : Nat) (z : Nat) (cW : ClassId) (cL : ClassId) (cQ : ClassId) (cO : ClassId) (WS : Nat → Int64) (LN : Nat → Int32) (PT : Nat → Int32) (hm : Nat) (y : Int32) (mo : Int32) (d : Int32) (hh : Int32) (mi : Int32) (ss : Int32) (hp : Nat) (k : Nat) (cP : ClassId) (g : Nat → Int32) (hz : z < 40) (hk : k ≤ 242) (hlz : LN z = nI k) (hln : ∀ j, j < z → ∃ q : Nat, LN j = nI q ∧ q ≤ 242) (T : Nat → Int32) (Cx : kc_Cx yX1_add cX1_add (some .int) 4 wsX1_add p s m ([.ref h, .ref hm] : List Value).toArray meth c) (hA : ∀ q, s.heap.size ≤ q → A q) (hG : kg st A s) (hK : va_K (dC, dI) kcl [(cW, .long), (cL, .int), (cQ, .byte), (cO, .int), (cP, .byte)] s) :
    ∀ (q : Nat) (OD : Nat → Int32) (hq : q ≤ z) (hod : ∀ j, j < q → ∃ b : Nat, OD j = nI b ∧ b < z) (hT : insL WS LN PT z k q OD = T) (H : Heap) (locs : List Loc) (ls : Array Slot), va_P (dC, dI) kcl [(h, .inr (1, [.ref aw, .ref al, .ref ap, .ref ao, .int (nI z)])), (aw, .inl (cW, 40, .inr (.inl WS))), (al, .inl (cL, 40, .inl LN)), (ap, .inl (cQ, 9680, .inl PT)), (ao, .inl (cO, 40, .inl OD)), (hm, .inr (2, [.int y, .int mo, .int d, .int hh, .int mi, .int ss, .ref hp, .int (nI k)])), (hp, .inl (cP, 242, .inl g))] H → va_D A [(h, .inr (1, [.ref aw, .ref al, .ref ap, .ref ao, .int (nI z)])), (aw, .inl (cW, 40, .inr (.inl WS))), (al, .inl (cL, 40, .inl LN)), (ap, .inl (cQ, 9680, .inl PT)), (ao, .inl (cO, 40, .inl OD)), (hm, .inr (2, [.int y, .int mo, .int d, .int hh, .int mi, .int ss, .ref hp, .int (nI k)])), (hp, .inl (cP, 242, .inl g))] → va_S A s.heap H locs → lv_has ls 4 [(0, .ref h), (1, .ref hm), (2, .int (nI z)), (3, .int (nI q))] → W p l e ({ frames := 3, cells := 0, slots := 0, locals := 64 }) s m ([.ref h, .ref hm] : List Value).toArray below meth c H locs 0 0 (MQ below (kc_Qi (dC, dI) kcl (nI z) [(h, .inr (1, [.ref aw, .ref al, .ref ap, .ref ao, .int (nI (z + 1))])), (aw, .inl (cW, 40, .inr (.inl WS))), (al, .inl (cL, 40, .inl LN)), (ap, .inl (cQ, 9680, .inl PT)), (ao, .inl (cO, 40, .inl T)), (hm, .inr (2, [.int y, .int mo, .int d, .int hh, .int mi, .int ss, .ref hp, .int (nI k)])), (hp, .inl (cP, 242, .inl g))] A) ([.ref h, .ref hm] : List Value).toArray s 0 0 A) (F0 m 62 ls []) := by
  obtain ⟨hx, hb, hr, hml, hown, hts, hlocks, hnm⟩ := Cx
  intro q
  induction q with
  | zero =>
    intro OD hq hod hT H locs ls hP hD hS hl
    refine lv_iload_n hx hb dX1_add_62 rfl (lv_at hl 3 rfl) ?_
    refine lv_if_le (tgt := 102) hx hb dX1_add_63 (by decide) (fun c_63 => ?_) (fun c_63 => ?_)
    · refine lv_aload_n hx hb dX1_add_102 rfl (lv_at hl 0 rfl) ?_
      refine va_get (D := (dC, dI)) (ci := 1) (v := .ref ao) (C := RX1) (T := TX1) (N := 5) hx hb hts kin_1 hown hK hP 0 rfl rfl 3 (by decide) (hts _ (kcm kwm_120)) (fun _ h9 => h9) rfl dX1_add_103 ?_
      refine lv_iload_n hx hb dX1_add_106 rfl (lv_at hl 3 rfl) ?_
      refine lv_iload_n hx hb dX1_add_107 rfl (lv_at hl 2 rfl) ?_
      refine va_iast hx hb hK hP hD hS 4 3 rfl rfl (vp_in_nI (show 0 < 40 by omega) (by decide)) dX1_add_108 (fun H locs hP hD hS => ?_)
      rw [show (nI 0).toNatClampNeg = 0 from nI_clamp (by omega)] at hP hD
      have hP : va_P (dC, dI) kcl [(h, .inr (1, [.ref aw, .ref al, .ref ap, .ref ao, .int (nI z)])), (aw, .inl (cW, 40, .inr (.inl WS))), (al, .inl (cL, 40, .inl LN)), (ap, .inl (cQ, 9680, .inl PT)), (ao, .inl (cO, 40, .inl (upd OD 0 (nI z)))), (hm, .inr (2, [.int y, .int mo, .int d, .int hh, .int mi, .int ss, .ref hp, .int (nI k)])), (hp, .inl (cP, 242, .inl g))] H := hP
      have hD : va_D A [(h, .inr (1, [.ref aw, .ref al, .ref ap, .ref ao, .int (nI z)])), (aw, .inl (cW, 40, .inr (.inl WS))), (al, .inl (cL, 40, .inl LN)), (ap, .inl (cQ, 9680, .inl PT)), (ao, .inl (cO, 40, .inl (upd OD 0 (nI z)))), (hm, .inr (2, [.int y, .int mo, .int d, .int hh, .int mi, .int ss, .ref hp, .int (nI k)])), (hp, .inl (cP, 242, .inl g))] := hD
      refine lv_aload_n hx hb dX1_add_109 rfl (lv_at hl 0 rfl) ?_
      refine lv_dup hx hb dX1_add_110 rfl ?_
      refine va_get (D := (dC, dI)) (ci := 1) (v := .int (nI z)) (C := RX1) (T := TX1) (N := 5) hx hb hts kin_1 hown hK hP 0 rfl rfl 4 (by decide) (hts _ (kcm kwm_103)) (fun _ h9 => h9) rfl dX1_add_111 ?_
      refine lv_iconst (v := 1) hx hb dX1_add_114 (by decide) ?_
      refine lv_iadd hx hb dX1_add_115 ?_
      rw [show (nI z) + 1 = nI (z + 1) from nI_1 z]
      refine va_put (D := (dC, dI)) (ci := 1) (v := .int (nI (z + 1))) (ty := .int) (C := RX1) (T := TX1) (N := 5) hx hb hts kin_1 tyX1 tyX1_ok nmX1 hown hK hP hD hS 0 rfl rfl 4 (by decide) (hts _ (kcm kwm_103)) (fun _ h9 => h9) rfl (by decide +kernel) rfl rfl (Nat.le_of_ble_eq_true rfl) dX1_add_116 (fun H locs hP hD hS => ?_)
      have hP : va_P (dC, dI) kcl [(h, .inr (1, [.ref aw, .ref al, .ref ap, .ref ao, .int (nI (z + 1))])), (aw, .inl (cW, 40, .inr (.inl WS))), (al, .inl (cL, 40, .inl LN)), (ap, .inl (cQ, 9680, .inl PT)), (ao, .inl (cO, 40, .inl (upd OD 0 (nI z)))), (hm, .inr (2, [.int y, .int mo, .int d, .int hh, .int mi, .int ss, .ref hp, .int (nI k)])), (hp, .inl (cP, 242, .inl g))] H := hP
      have hD : va_D A [(h, .inr (1, [.ref aw, .ref al, .ref ap, .ref ao, .int (nI (z + 1))])), (aw, .inl (cW, 40, .inr (.inl WS))), (al, .inl (cL, 40, .inl LN)), (ap, .inl (cQ, 9680, .inl PT)), (ao, .inl (cO, 40, .inl (upd OD 0 (nI z)))), (hm, .inr (2, [.int y, .int mo, .int d, .int hh, .int mi, .int ss, .ref hp, .int (nI k)])), (hp, .inl (cP, 242, .inl g))] := hD
      refine lv_iload_n hx hb dX1_add_119 rfl (lv_at hl 2 rfl) ?_
      have hP9 : va_P (dC, dI) kcl [(h, .inr (1, [.ref aw, .ref al, .ref ap, .ref ao, .int (nI (z + 1))])), (aw, .inl (cW, 40, .inr (.inl WS))), (al, .inl (cL, 40, .inl LN)), (ap, .inl (cQ, 9680, .inl PT)), (ao, .inl (cO, 40, .inl T)), (hm, .inr (2, [.int y, .int mo, .int d, .int hh, .int mi, .int ss, .ref hp, .int (nI k)])), (hp, .inl (cP, 242, .inl g))] H := by
        try rw [← hT]
        exact hP.sub [0, 1, 2, 3, 4, 5, 6] rfl
      have hD9 : va_D A [(h, .inr (1, [.ref aw, .ref al, .ref ap, .ref ao, .int (nI (z + 1))])), (aw, .inl (cW, 40, .inr (.inl WS))), (al, .inl (cL, 40, .inl LN)), (ap, .inl (cQ, 9680, .inl PT)), (ao, .inl (cO, 40, .inl T)), (hm, .inr (2, [.int y, .int mo, .int d, .int hh, .int mi, .int ss, .ref hp, .int (nI k)])), (hp, .inl (cP, 242, .inl g))] := by
        try rw [← hT]
        exact hD.sub [0, 1, 2, 3, 4, 5, 6] (by decide) rfl
      have hv9 : nI z = nI z := by
        try rw [← hT]
        try rfl
      exact kc_iret hx hb hr hlocks hv9 hP9 hD9 hS dX1_add_120
    · exact absurd (show nI 0 ≤ 0 by decide) c_63
  | succ q ih =>
    intro OD hq hod hT H locs ls hP hD hS hl
    obtain ⟨b9, hb9, hbz⟩ := hod q (by omega)
    have hq9 : OD q = nI (OD q).toNatClampNeg := by rw [hb9, nI_clamp (by omega)]
    have hqz : (OD q).toNatClampNeg < 40 := by rw [hb9, nI_clamp (by omega)]; omega
    obtain ⟨l9, hl9, hl8⟩ := hln (OD q).toNatClampNeg (by rw [hb9, nI_clamp (by omega)]; exact hbz)
    have hlq : LN (OD q).toNatClampNeg = nI (LN (OD q).toNatClampNeg).toNatClampNeg := by rw [hl9, nI_clamp (by omega)]
    have hlq2 : (LN (OD q).toNatClampNeg).toNatClampNeg ≤ 242 := by rw [hl9, nI_clamp (by omega)]; exact hl8
    refine lv_iload_n hx hb dX1_add_62 rfl (lv_at hl 3 rfl) ?_
    refine lv_if_le (tgt := 102) hx hb dX1_add_63 (by decide) (fun c_63 => ?_) (fun c_63 => ?_)
    · exact absurd c_63 (nI_nle (by omega) (by omega))
    · refine lv_aload_n hx hb dX1_add_66 rfl (lv_at hl 0 rfl) ?_
      refine lv_iload_n hx hb dX1_add_67 rfl (lv_at hl 2 rfl) ?_
      refine lv_aload_n hx hb dX1_add_68 rfl (lv_at hl 0 rfl) ?_
      refine va_get (D := (dC, dI)) (ci := 1) (v := .ref ao) (C := RX1) (T := TX1) (N := 5) hx hb hts kin_1 hown hK hP 0 rfl rfl 3 (by decide) (hts _ (kcm kwm_120)) (fun _ h9 => h9) rfl dX1_add_69 ?_
      refine lv_iload_n hx hb dX1_add_72 rfl (lv_at hl 3 rfl) ?_
      refine lv_iconst (v := 1) hx hb dX1_add_73 (by decide) ?_
      refine lv_isub hx hb dX1_add_74 ?_
      rw [show (nI (q + 1)) - 1 = nI q from nI_pred q]
      refine va_iald hx hb hK hP 4 3 rfl rfl (vp_in_nI (show q < 40 by omega) (by decide)) dX1_add_75 ?_
      rw [show (nI q).toNatClampNeg = q from nI_clamp (by omega)]
      rw [show OD q = nI (OD q).toNatClampNeg from hq9]
      have hPc := hP.sub (ws' := [(h, .inr (1, [.ref aw, .ref al, .ref ap, .ref ao, .int (nI z)])), (aw, .inl (cW, 40, .inr (.inl WS))), (al, .inl (cL, 40, .inl LN)), (ap, .inl (cQ, 9680, .inl PT))]) [0, 1, 2, 3] rfl
      have hDc := hD.sub (ws' := [(h, .inr (1, [.ref aw, .ref al, .ref ap, .ref ao, .int (nI z)])), (aw, .inl (cW, 40, .inr (.inl WS))), (al, .inl (cL, 40, .inl LN)), (ap, .inl (cQ, 9680, .inl PT))]) [0, 1, 2, 3] (by decide) rfl
      have hKc := hK.sub (tys' := [(cW, .long), (cL, .int), (cQ, .byte)]) [0, 1, 2] rfl
      have hFc := va_free (wc := [(h, .inr (1, [.ref aw, .ref al, .ref ap, .ref ao, .int (nI z)])), (aw, .inl (cW, 40, .inr (.inl WS))), (al, .inl (cL, 40, .inl LN)), (ap, .inl (cQ, 9680, .inl PT))]) hD hS hA [0, 1, 2, 3] rfl
      refine kc_callSi (val := bI (befK WS PT z (OD q).toNatClampNeg k (LN (OD q).toNatClampNeg).toNatClampNeg)) (va_runV (As := [.int (nI z), .int (nI (OD q).toNatClampNeg)]) (rest := []) ⟨hx, hb, hml, hown, hts⟩ (c_Kp_isBefore l dC dI st H.size h aw al ap ao z cW cL cQ WS LN PT z (OD q).toNatClampNeg k (LN (OD q).toNatClampNeg).toNatClampNeg hz hqz hlz hlq hk hlq2) (cwV 2 hts (kwV kwm_112 kwm_113 kwm_114 kwm_115 kwm_111) rfl rfl rfl (by decide +kernel) ⟨Nat.le_of_ble_eq_true rfl, Nat.le_of_ble_eq_true rfl⟩) ⟨kc_blind, va_recv hKc hPc (ci := 1) (q0 := 0) rfl rfl, kc_pre hG hS hFc hKc hPc hDc⟩ rfl rfl hl.1 rfl (lv_room (Nat.le_of_ble_eq_true rfl)) dX1_add_76 ⟨Nat.le_of_ble_eq_true rfl, Nat.le_of_ble_eq_true rfl⟩) ?_
      refine lv_if_eq (tgt := 102) hx hb dX1_add_79 (by decide) (fun c_79 => ?_) (fun c_79 => ?_)
      · refine lv_aload_n hx hb dX1_add_102 rfl (lv_at hl 0 rfl) ?_
        refine va_get (D := (dC, dI)) (ci := 1) (v := .ref ao) (C := RX1) (T := TX1) (N := 5) hx hb hts kin_1 hown hK hP 0 rfl rfl 3 (by decide) (hts _ (kcm kwm_120)) (fun _ h9 => h9) rfl dX1_add_103 ?_
        refine lv_iload_n hx hb dX1_add_106 rfl (lv_at hl 3 rfl) ?_
        refine lv_iload_n hx hb dX1_add_107 rfl (lv_at hl 2 rfl) ?_
        refine va_iast hx hb hK hP hD hS 4 3 rfl rfl (vp_in_nI (show q + 1 < 40 by omega) (by decide)) dX1_add_108 (fun H locs hP hD hS => ?_)
        rw [show (nI (q + 1)).toNatClampNeg = (q + 1) from nI_clamp (by omega)] at hP hD
        have hP : va_P (dC, dI) kcl [(h, .inr (1, [.ref aw, .ref al, .ref ap, .ref ao, .int (nI z)])), (aw, .inl (cW, 40, .inr (.inl WS))), (al, .inl (cL, 40, .inl LN)), (ap, .inl (cQ, 9680, .inl PT)), (ao, .inl (cO, 40, .inl (upd OD (q + 1) (nI z)))), (hm, .inr (2, [.int y, .int mo, .int d, .int hh, .int mi, .int ss, .ref hp, .int (nI k)])), (hp, .inl (cP, 242, .inl g))] H := hP
        have hD : va_D A [(h, .inr (1, [.ref aw, .ref al, .ref ap, .ref ao, .int (nI z)])), (aw, .inl (cW, 40, .inr (.inl WS))), (al, .inl (cL, 40, .inl LN)), (ap, .inl (cQ, 9680, .inl PT)), (ao, .inl (cO, 40, .inl (upd OD (q + 1) (nI z)))), (hm, .inr (2, [.int y, .int mo, .int d, .int hh, .int mi, .int ss, .ref hp, .int (nI k)])), (hp, .inl (cP, 242, .inl g))] := hD
        refine lv_aload_n hx hb dX1_add_109 rfl (lv_at hl 0 rfl) ?_
        refine lv_dup hx hb dX1_add_110 rfl ?_
        refine va_get (D := (dC, dI)) (ci := 1) (v := .int (nI z)) (C := RX1) (T := TX1) (N := 5) hx hb hts kin_1 hown hK hP 0 rfl rfl 4 (by decide) (hts _ (kcm kwm_103)) (fun _ h9 => h9) rfl dX1_add_111 ?_
        refine lv_iconst (v := 1) hx hb dX1_add_114 (by decide) ?_
        refine lv_iadd hx hb dX1_add_115 ?_
        rw [show (nI z) + 1 = nI (z + 1) from nI_1 z]
        refine va_put (D := (dC, dI)) (ci := 1) (v := .int (nI (z + 1))) (ty := .int) (C := RX1) (T := TX1) (N := 5) hx hb hts kin_1 tyX1 tyX1_ok nmX1 hown hK hP hD hS 0 rfl rfl 4 (by decide) (hts _ (kcm kwm_103)) (fun _ h9 => h9) rfl (by decide +kernel) rfl rfl (Nat.le_of_ble_eq_true rfl) dX1_add_116 (fun H locs hP hD hS => ?_)
        have hP : va_P (dC, dI) kcl [(h, .inr (1, [.ref aw, .ref al, .ref ap, .ref ao, .int (nI (z + 1))])), (aw, .inl (cW, 40, .inr (.inl WS))), (al, .inl (cL, 40, .inl LN)), (ap, .inl (cQ, 9680, .inl PT)), (ao, .inl (cO, 40, .inl (upd OD (q + 1) (nI z)))), (hm, .inr (2, [.int y, .int mo, .int d, .int hh, .int mi, .int ss, .ref hp, .int (nI k)])), (hp, .inl (cP, 242, .inl g))] H := hP
        have hD : va_D A [(h, .inr (1, [.ref aw, .ref al, .ref ap, .ref ao, .int (nI (z + 1))])), (aw, .inl (cW, 40, .inr (.inl WS))), (al, .inl (cL, 40, .inl LN)), (ap, .inl (cQ, 9680, .inl PT)), (ao, .inl (cO, 40, .inl (upd OD (q + 1) (nI z)))), (hm, .inr (2, [.int y, .int mo, .int d, .int hh, .int mi, .int ss, .ref hp, .int (nI k)])), (hp, .inl (cP, 242, .inl g))] := hD
        refine lv_iload_n hx hb dX1_add_119 rfl (lv_at hl 2 rfl) ?_
        have hT : upd OD (q + 1) (nI z) = T := by rw [← hT]; exact (if_pos c_79).symm
        have hP9 : va_P (dC, dI) kcl [(h, .inr (1, [.ref aw, .ref al, .ref ap, .ref ao, .int (nI (z + 1))])), (aw, .inl (cW, 40, .inr (.inl WS))), (al, .inl (cL, 40, .inl LN)), (ap, .inl (cQ, 9680, .inl PT)), (ao, .inl (cO, 40, .inl T)), (hm, .inr (2, [.int y, .int mo, .int d, .int hh, .int mi, .int ss, .ref hp, .int (nI k)])), (hp, .inl (cP, 242, .inl g))] H := by
          try rw [← hT]
          exact hP.sub [0, 1, 2, 3, 4, 5, 6] rfl
        have hD9 : va_D A [(h, .inr (1, [.ref aw, .ref al, .ref ap, .ref ao, .int (nI (z + 1))])), (aw, .inl (cW, 40, .inr (.inl WS))), (al, .inl (cL, 40, .inl LN)), (ap, .inl (cQ, 9680, .inl PT)), (ao, .inl (cO, 40, .inl T)), (hm, .inr (2, [.int y, .int mo, .int d, .int hh, .int mi, .int ss, .ref hp, .int (nI k)])), (hp, .inl (cP, 242, .inl g))] := by
          try rw [← hT]
          exact hD.sub [0, 1, 2, 3, 4, 5, 6] (by decide) rfl
        have hv9 : nI z = nI z := by
          try rw [← hT]
          try rfl
        exact kc_iret hx hb hr hlocks hv9 hP9 hD9 hS dX1_add_120
      · refine lv_aload_n hx hb dX1_add_82 rfl (lv_at hl 0 rfl) ?_
        refine va_get (D := (dC, dI)) (ci := 1) (v := .ref ao) (C := RX1) (T := TX1) (N := 5) hx hb hts kin_1 hown hK hP 0 rfl rfl 3 (by decide) (hts _ (kcm kwm_120)) (fun _ h9 => h9) rfl dX1_add_83 ?_
        refine lv_iload_n hx hb dX1_add_86 rfl (lv_at hl 3 rfl) ?_
        refine lv_aload_n hx hb dX1_add_87 rfl (lv_at hl 0 rfl) ?_
        refine va_get (D := (dC, dI)) (ci := 1) (v := .ref ao) (C := RX1) (T := TX1) (N := 5) hx hb hts kin_1 hown hK hP 0 rfl rfl 3 (by decide) (hts _ (kcm kwm_120)) (fun _ h9 => h9) rfl dX1_add_88 ?_
        refine lv_iload_n hx hb dX1_add_91 rfl (lv_at hl 3 rfl) ?_
        refine lv_iconst (v := 1) hx hb dX1_add_92 (by decide) ?_
        refine lv_isub hx hb dX1_add_93 ?_
        rw [show (nI (q + 1)) - 1 = nI q from nI_pred q]
        refine va_iald hx hb hK hP 4 3 rfl rfl (vp_in_nI (show q < 40 by omega) (by decide)) dX1_add_94 ?_
        rw [show (nI q).toNatClampNeg = q from nI_clamp (by omega)]
        refine va_iast hx hb hK hP hD hS 4 3 rfl rfl (vp_in_nI (show q + 1 < 40 by omega) (by decide)) dX1_add_95 (fun H locs hP hD hS => ?_)
        rw [show (nI (q + 1)).toNatClampNeg = (q + 1) from nI_clamp (by omega)] at hP hD
        have hP : va_P (dC, dI) kcl [(h, .inr (1, [.ref aw, .ref al, .ref ap, .ref ao, .int (nI z)])), (aw, .inl (cW, 40, .inr (.inl WS))), (al, .inl (cL, 40, .inl LN)), (ap, .inl (cQ, 9680, .inl PT)), (ao, .inl (cO, 40, .inl (upd OD (q + 1) (OD q)))), (hm, .inr (2, [.int y, .int mo, .int d, .int hh, .int mi, .int ss, .ref hp, .int (nI k)])), (hp, .inl (cP, 242, .inl g))] H := hP
        have hD : va_D A [(h, .inr (1, [.ref aw, .ref al, .ref ap, .ref ao, .int (nI z)])), (aw, .inl (cW, 40, .inr (.inl WS))), (al, .inl (cL, 40, .inl LN)), (ap, .inl (cQ, 9680, .inl PT)), (ao, .inl (cO, 40, .inl (upd OD (q + 1) (OD q)))), (hm, .inr (2, [.int y, .int mo, .int d, .int hh, .int mi, .int ss, .ref hp, .int (nI k)])), (hp, .inl (cP, 242, .inl g))] := hD
        refine lv_iinc (v := (nI (q + 1)) + (-1)) (lv' := [(3, .int ((nI (q + 1)) + (-1))), (0, .ref h), (1, .ref hm), (2, .int (nI z))]) hx hb dX1_add_96 hl (k := 3) rfl (congrArg (fun z => (nI (q + 1)) + z) (show Int32.ofInt (-1) = (-1 : Int32) by decide)) (by decide) rfl (fun ls hl => ?_)
        refine lv_goto (tgt := 62) hx hb dX1_add_99 (by decide) ?_
        rw [show nI (q + 1) + (-1) = nI q from (kb_m1 _).trans (nI_pred q)] at hl
        exact ih _ (by omega) (fun j hj => by rw [pk_un (by omega)]; exact hod j (by omega)) (by rw [← hT]; exact (if_neg c_79).symm) H locs ls (hP.sub [0, 1, 2, 3, 4, 5, 6] rfl) (hD.sub [0, 1, 2, 3, 4, 5, 6] (by decide) rfl) hS (lv_sub hl [1, 2, 3, 0] rfl)
set_option maxHeartbeats 4000000 in
set_option maxRecDepth 100000 in
theorem c_Kp_add (l : Launch) (dC : Nat → ClassId) (dI : Nat → Nat → Nat) (st sz : Nat) (h : Nat) (aw : Nat) (al : Nat) (ap : Nat) (ao : Nat) (z : Nat) (cW : ClassId) (cL : ClassId) (cQ : ClassId) (cO : ClassId) (WS : Nat → Int64) (LN : Nat → Int32) (PT : Nat → Int32) (OD : Nat → Int32) (hm : Nat) (y : Int32) (mo : Int32) (d : Int32) (hh : Int32) (mi : Int32) (ss : Int32) (hp : Nat) (k : Nat) (cP : ClassId) (g : Nat → Int32) (hz : z < 40) (hk : k ≤ 242) (hfit : ∀ i, i < k → fits .byte (.int (g i)) = true) (hln : ∀ j, j < z → ∃ q : Nat, LN j = nI q ∧ q ≤ 242) (hod : ∀ j, j < z → ∃ q : Nat, OD j = nI q ∧ q < z) : Met l yX1_add wsX1_add ({ frames := 3, cells := 0, slots := 0, locals := 64 }) (kc_Pc (dC, dI) kcl st sz [.ref h, .ref hm] [(h, .inr (1, [.ref aw, .ref al, .ref ap, .ref ao, .int (nI z)])), (aw, .inl (cW, 40, .inr (.inl WS))), (al, .inl (cL, 40, .inl LN)), (ap, .inl (cQ, 9680, .inl PT)), (ao, .inl (cO, 40, .inl OD)), (hm, .inr (2, [.int y, .int mo, .int d, .int hh, .int mi, .int ss, .ref hp, .int (nI k)])), (hp, .inl (cP, 242, .inl g))] [(cW, .long), (cL, .int), (cQ, .byte), (cO, .int), (cP, .byte)]) (kc_Qi (dC, dI) kcl (nI z) [(h, .inr (1, [.ref aw, .ref al, .ref ap, .ref ao, .int (nI (z + 1))])), (aw, .inl (cW, 40, .inr (.inl (vp_updL WS z (wSecs y mo d hh mi ss))))), (al, .inl (cL, 40, .inl (upd LN z (nI k)))), (ap, .inl (cQ, 9680, .inl (va_cpy g PT 0 (z * 242) k))), (ao, .inl (cO, 40, .inl (insL (vp_updL WS z (wSecs y mo d hh mi ss)) (upd LN z (nI k)) (va_cpy g PT 0 (z * 242) k) z k z OD))), (hm, .inr (2, [.int y, .int mo, .int d, .int hh, .int mi, .int ss, .ref hp, .int (nI k)])), (hp, .inl (cP, 242, .inl g))] (va_A [(h, .inr (1, [.ref aw, .ref al, .ref ap, .ref ao, .int (nI z)])), (aw, .inl (cW, 40, .inr (.inl WS))), (al, .inl (cL, 40, .inl LN)), (ap, .inl (cQ, 9680, .inl PT)), (ao, .inl (cO, 40, .inl OD)), (hm, .inr (2, [.int y, .int mo, .int d, .int hh, .int mi, .int ss, .ref hp, .int (nI k)])), (hp, .inl (cP, 242, .inl g))] sz)) 0 0 (va_A [(h, .inr (1, [.ref aw, .ref al, .ref ap, .ref ao, .int (nI z)])), (aw, .inl (cW, 40, .inr (.inl WS))), (al, .inl (cL, 40, .inl LN)), (ap, .inl (cQ, 9680, .inl PT)), (ao, .inl (cO, 40, .inl OD)), (hm, .inr (2, [.int y, .int mo, .int d, .int hh, .int mi, .int ss, .ref hp, .int (nI k)])), (hp, .inl (cP, 242, .inl g))] sz) := by
  refine kc_ofW (Qc := fun A => (kc_Qi (dC, dI) kcl (nI z) [(h, .inr (1, [.ref aw, .ref al, .ref ap, .ref ao, .int (nI (z + 1))])), (aw, .inl (cW, 40, .inr (.inl (vp_updL WS z (wSecs y mo d hh mi ss))))), (al, .inl (cL, 40, .inl (upd LN z (nI k)))), (ap, .inl (cQ, 9680, .inl (va_cpy g PT 0 (z * 242) k))), (ao, .inl (cO, 40, .inl (insL (vp_updL WS z (wSecs y mo d hh mi ss)) (upd LN z (nI k)) (va_cpy g PT 0 (z * 242) k) z k z OD))), (hm, .inr (2, [.int y, .int mo, .int d, .int hh, .int mi, .int ss, .ref hp, .int (nI k)])), (hp, .inl (cP, 242, .inl g))] A)) (cc := cX1_add) (maxL := 4) (ret := (some .int)) (by decide) rfl (Nat.le_of_ble_eq_true rfl) ?_
  intro p e s m below meth c A ls Cx hA hG hK hP hD hS hl
  obtain ⟨hx, hb, hr, hml, hown, hts, hlocks, hnm⟩ := id Cx
  have hl : lv_has ls 4 [(0, .ref h), (1, .ref hm)] := hl
  refine lv_aload_n hx hb dX1_add_0 rfl (lv_at hl 0 rfl) ?_
  refine va_get (D := (dC, dI)) (ci := 1) (v := .int (nI z)) (C := RX1) (T := TX1) (N := 5) hx hb hts kin_1 hown hK hP 0 rfl rfl 4 (by decide) (hts _ (kcm kwm_103)) (fun _ h9 => h9) rfl dX1_add_1 ?_
  refine lv_bipush (v := 40) hx hb dX1_add_4 (by decide) ?_
  refine lv_icmp_lt (tgt := 11) hx hb dX1_add_6 (by decide) (fun c_6 => ?_) (fun c_6 => ?_)
  · refine lv_aload_n hx hb dX1_add_11 rfl (lv_at hl 0 rfl) ?_
    refine va_get (D := (dC, dI)) (ci := 1) (v := .int (nI z)) (C := RX1) (T := TX1) (N := 5) hx hb hts kin_1 hown hK hP 0 rfl rfl 4 (by decide) (hts _ (kcm kwm_103)) (fun _ h9 => h9) rfl dX1_add_12 ?_
    refine lv_istore_n (lv' := [(2, .int (nI z)), (0, .ref h), (1, .ref hm)]) hx hb dX1_add_15 rfl hl (by decide) rfl (fun ls hl => ?_)
    refine lv_aload_n hx hb dX1_add_16 rfl (lv_at hl 1 rfl) ?_
    refine va_get (D := (dC, dI)) (ci := 1) (v := .ref aw) (C := RX1) (T := TX1) (N := 5) hx hb hts kin_1 hown hK hP 0 rfl rfl 0 (by decide) (hts _ (kcm kwm_106)) (fun _ h9 => h9) rfl dX1_add_17 ?_
    refine lv_iload_n hx hb dX1_add_20 rfl (lv_at hl 0 rfl) ?_
    refine lv_aload_n hx hb dX1_add_21 rfl (lv_at hl 2 rfl) ?_
    have hPc := hP.sub (ws' := [(hm, .inr (2, [.int y, .int mo, .int d, .int hh, .int mi, .int ss, .ref hp, .int (nI k)]))]) [5] rfl
    have hDc := hD.sub (ws' := [(hm, .inr (2, [.int y, .int mo, .int d, .int hh, .int mi, .int ss, .ref hp, .int (nI k)]))]) [5] (by decide) rfl
    have hKc := hK.sub (tys' := []) [] rfl
    have hFc := va_free (wc := [(hm, .inr (2, [.int y, .int mo, .int d, .int hh, .int mi, .int ss, .ref hp, .int (nI k)]))]) hD hS hA [5] rfl
    refine kc_callSl (val := wSecs y mo d hh mi ss) (va_runV (As := []) (rest := [.int (nI z), .ref aw]) ⟨hx, hb, hml, hown, hts⟩ (c_Mo_wholeSeconds l dC dI st s.heap.size hm y mo d hh mi ss hp k ) (cwV 0 hts (kwV kwm_117 kwm_118 kwm_119 kwm_21 kwm_116) rfl rfl rfl (by decide +kernel) ⟨Nat.le_of_ble_eq_true rfl, Nat.le_of_ble_eq_true rfl⟩) ⟨kc_blind, va_recv hKc hPc (ci := 2) (q0 := 0) rfl rfl, kc_pre hG hS hFc hKc hPc hDc⟩ rfl rfl hl.1 rfl (lv_room (Nat.le_of_ble_eq_true rfl)) dX1_add_22 ⟨Nat.le_of_ble_eq_true rfl, Nat.le_of_ble_eq_true rfl⟩) ?_
    refine va_last hx hb hK hP hD hS 1 0 rfl rfl (vp_in_nI hz (by decide)) dX1_add_25 (fun H locs hP hD hS => ?_)
    rw [show (nI z).toNatClampNeg = z from nI_clamp (by omega)] at hP hD
    have hP : va_P (dC, dI) kcl [(h, .inr (1, [.ref aw, .ref al, .ref ap, .ref ao, .int (nI z)])), (aw, .inl (cW, 40, .inr (.inl (vp_updL WS z (wSecs y mo d hh mi ss))))), (al, .inl (cL, 40, .inl LN)), (ap, .inl (cQ, 9680, .inl PT)), (ao, .inl (cO, 40, .inl OD)), (hm, .inr (2, [.int y, .int mo, .int d, .int hh, .int mi, .int ss, .ref hp, .int (nI k)])), (hp, .inl (cP, 242, .inl g))] H := hP
    have hD : va_D A [(h, .inr (1, [.ref aw, .ref al, .ref ap, .ref ao, .int (nI z)])), (aw, .inl (cW, 40, .inr (.inl (vp_updL WS z (wSecs y mo d hh mi ss))))), (al, .inl (cL, 40, .inl LN)), (ap, .inl (cQ, 9680, .inl PT)), (ao, .inl (cO, 40, .inl OD)), (hm, .inr (2, [.int y, .int mo, .int d, .int hh, .int mi, .int ss, .ref hp, .int (nI k)])), (hp, .inl (cP, 242, .inl g))] := hD
    refine lv_aload_n hx hb dX1_add_26 rfl (lv_at hl 1 rfl) ?_
    refine va_get (D := (dC, dI)) (ci := 1) (v := .ref al) (C := RX1) (T := TX1) (N := 5) hx hb hts kin_1 hown hK hP 0 rfl rfl 1 (by decide) (hts _ (kcm kwm_104)) (fun _ h9 => h9) rfl dX1_add_27 ?_
    refine lv_iload_n hx hb dX1_add_30 rfl (lv_at hl 0 rfl) ?_
    refine lv_aload_n hx hb dX1_add_31 rfl (lv_at hl 2 rfl) ?_
    refine va_getN (D := (dC, dI)) (ci := 2) (v := .int (nI k)) (C := RX2) (T := TX2) (N := 8) hx hb hts kin_2 hown hK hP 5 rfl rfl 7 (by decide) (kg_use hG (List.mem_of_getElem? (i := 0) (a := Cond.fieldLinkNest RX1 35 "ClockTexts$Moment" "partLength" "I" "ClockTexts") rfl)) (fun _ h9 => h9) rfl dX1_add_32 ?_
    refine va_iast hx hb hK hP hD hS 2 1 rfl rfl (vp_in_nI hz (by decide)) dX1_add_35 (fun H locs hP hD hS => ?_)
    rw [show (nI z).toNatClampNeg = z from nI_clamp (by omega)] at hP hD
    have hP : va_P (dC, dI) kcl [(h, .inr (1, [.ref aw, .ref al, .ref ap, .ref ao, .int (nI z)])), (aw, .inl (cW, 40, .inr (.inl (vp_updL WS z (wSecs y mo d hh mi ss))))), (al, .inl (cL, 40, .inl (upd LN z (nI k)))), (ap, .inl (cQ, 9680, .inl PT)), (ao, .inl (cO, 40, .inl OD)), (hm, .inr (2, [.int y, .int mo, .int d, .int hh, .int mi, .int ss, .ref hp, .int (nI k)])), (hp, .inl (cP, 242, .inl g))] H := hP
    have hD : va_D A [(h, .inr (1, [.ref aw, .ref al, .ref ap, .ref ao, .int (nI z)])), (aw, .inl (cW, 40, .inr (.inl (vp_updL WS z (wSecs y mo d hh mi ss))))), (al, .inl (cL, 40, .inl (upd LN z (nI k)))), (ap, .inl (cQ, 9680, .inl PT)), (ao, .inl (cO, 40, .inl OD)), (hm, .inr (2, [.int y, .int mo, .int d, .int hh, .int mi, .int ss, .ref hp, .int (nI k)])), (hp, .inl (cP, 242, .inl g))] := hD
    refine lv_aload_n hx hb dX1_add_36 rfl (lv_at hl 2 rfl) ?_
    refine va_getN (D := (dC, dI)) (ci := 2) (v := .ref hp) (C := RX2) (T := TX2) (N := 8) hx hb hts kin_2 hown hK hP 5 rfl rfl 6 (by decide) (kg_use hG (List.mem_of_getElem? (i := 1) (a := Cond.fieldLinkNest RX1 38 "ClockTexts$Moment" "part" "[B" "ClockTexts") rfl)) (fun _ h9 => h9) rfl dX1_add_37 ?_
    refine lv_iconst (v := 0) hx hb dX1_add_40 (by decide) ?_
    refine lv_aload_n hx hb dX1_add_41 rfl (lv_at hl 1 rfl) ?_
    refine va_get (D := (dC, dI)) (ci := 1) (v := .ref ap) (C := RX1) (T := TX1) (N := 5) hx hb hts kin_1 hown hK hP 0 rfl rfl 2 (by decide) (hts _ (kcm kwm_105)) (fun _ h9 => h9) rfl dX1_add_42 ?_
    refine lv_iload_n hx hb dX1_add_45 rfl (lv_at hl 0 rfl) ?_
    refine lv_sipush (v := 242) hx hb dX1_add_46 (by decide) ?_
    refine lv_imul hx hb dX1_add_49 ?_
    rw [show (nI z) * 242 = nI (z * 242) from pk_mul z 242]
    refine lv_aload_n hx hb dX1_add_50 rfl (lv_at hl 2 rfl) ?_
    refine va_getN (D := (dC, dI)) (ci := 2) (v := .int (nI k)) (C := RX2) (T := TX2) (N := 8) hx hb hts kin_2 hown hK hP 5 rfl rfl 7 (by decide) (kg_use hG (List.mem_of_getElem? (i := 0) (a := Cond.fieldLinkNest RX1 35 "ClockTexts$Moment" "partLength" "I" "ClockTexts") rfl)) (fun _ h9 => h9) rfl dX1_add_51 ?_
    refine va_copyi (ty := .byte) hx hb (hml.trans hl.1.symm) hown (hts _ (kcm kwm_121)) (hts _ (kcm kwm_122)) (hts _ (kcm kwm_123)) (hts _ (kcm kwm_124)) hK hP hD hS 6 3 4 2 rfl rfl rfl rfl rfl (by decide) (nI_pos (by omega)) (nI_pos (by omega)) (by rw [nI_clamp (show k < 2 ^ 31 by omega)]; show 0 + k ≤ 242; omega) (by rw [nI_clamp (show k < 2 ^ 31 by omega), nI_clamp (show z * 242 < 2 ^ 31 by omega)]; omega) (fun i hi => by rw [nI_clamp (show k < 2 ^ 31 by omega)] at hi; show fits .byte (.int (g (0 + i))) = true; rw [Nat.zero_add]; exact hfit i hi) (Nat.le_of_ble_eq_true rfl) (Nat.le_of_ble_eq_true rfl) dX1_add_54 (fun H locs hP hD hS => ?_)
    rw [show (0 : Int32).toNatClampNeg = 0 from rfl, show (nI (z * 242)).toNatClampNeg = z * 242 from nI_clamp (by omega), show (nI k).toNatClampNeg = k from nI_clamp (by omega)] at hP hD
    have hP : va_P (dC, dI) kcl [(h, .inr (1, [.ref aw, .ref al, .ref ap, .ref ao, .int (nI z)])), (aw, .inl (cW, 40, .inr (.inl (vp_updL WS z (wSecs y mo d hh mi ss))))), (al, .inl (cL, 40, .inl (upd LN z (nI k)))), (ap, .inl (cQ, 9680, .inl (va_cpy g PT 0 (z * 242) k))), (ao, .inl (cO, 40, .inl OD)), (hm, .inr (2, [.int y, .int mo, .int d, .int hh, .int mi, .int ss, .ref hp, .int (nI k)])), (hp, .inl (cP, 242, .inl g))] H := hP
    have hD : va_D A [(h, .inr (1, [.ref aw, .ref al, .ref ap, .ref ao, .int (nI z)])), (aw, .inl (cW, 40, .inr (.inl (vp_updL WS z (wSecs y mo d hh mi ss))))), (al, .inl (cL, 40, .inl (upd LN z (nI k)))), (ap, .inl (cQ, 9680, .inl (va_cpy g PT 0 (z * 242) k))), (ao, .inl (cO, 40, .inl OD)), (hm, .inr (2, [.int y, .int mo, .int d, .int hh, .int mi, .int ss, .ref hp, .int (nI k)])), (hp, .inl (cP, 242, .inl g))] := hD
    refine lv_aload_n hx hb dX1_add_57 rfl (lv_at hl 1 rfl) ?_
    refine va_get (D := (dC, dI)) (ci := 1) (v := .int (nI z)) (C := RX1) (T := TX1) (N := 5) hx hb hts kin_1 hown hK hP 0 rfl rfl 4 (by decide) (hts _ (kcm kwm_103)) (fun _ h9 => h9) rfl dX1_add_58 ?_
    refine lv_istore_n (lv' := [(3, .int (nI z)), (2, .int (nI z)), (0, .ref h), (1, .ref hm)]) hx hb dX1_add_61 rfl hl (by decide) rfl (fun ls hl => ?_)
    exact lp_add dC dI st h aw al ap ao z cW cL cQ cO (vp_updL WS z (wSecs y mo d hh mi ss)) (upd LN z (nI k)) (va_cpy g PT 0 (z * 242) k) hm y mo d hh mi ss hp k cP g hz hk (by rw [pk_us]) (fun j hj => by rw [pk_un (by omega)]; exact hln j hj) (insL (vp_updL WS z (wSecs y mo d hh mi ss)) (upd LN z (nI k)) (va_cpy g PT 0 (z * 242) k) z k z OD) Cx hA hG hK z OD (Nat.le_refl _) (fun j hj => hod j hj) rfl H locs ls (hP.sub [0, 1, 2, 3, 4, 5, 6] rfl) (hD.sub [0, 1, 2, 3, 4, 5, 6] (by decide) rfl) hS (lv_sub hl [2, 3, 1, 0] rfl)
  · exact absurd (show nI z < 40 from nI_lt hz (by decide)) c_6
