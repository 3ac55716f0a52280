set_option maxHeartbeats 4000000 in
set_option maxRecDepth 100000 in
theorem lp_six {p : Program} {l : Launch} {e : Env} {s : State} {m : MethodId} {below : List Frame} {meth : Method} {c : Code} (dC : Nat → ClassId) (dI : Nat → Nat → Nat) (st : Nat) {A : Nat → Prop} (h : Nat) (y : Int32) (mo : Int32) (d : Int32) (hh : Int32) (mi : Int32) (ss : Int32) (hp : Nat) (k : Nat) (cP : ClassId) (T : (Nat → Int32) × Int32) (Cx : kc_Cx yX2_takeSixtiethsOfPart cX2_takeSixtiethsOfPart (some .int) 4 wsX2_takeSixtiethsOfPart p s m ([.ref h] : List Value).toArray meth c) (hA : ∀ q, s.heap.size ≤ q → A q) (hG : kg st A s) (hK : va_K (dC, dI) kcl [(cP, .byte)] s) :
    ∀ (j : Nat) (g : Nat → Int32) (cy : Int32) (xi : Int32) (hxi : xi = nI j - 1) (hj : j ≤ 242) (hT : sxL j g cy = T) (H : Heap) (locs : List Loc) (ls : Array Slot), va_P (dC, dI) kcl [(h, .inr (2, [.int y, .int mo, .int d, .int hh, .int mi, .int ss, .ref hp, .int (nI k)])), (hp, .inl (cP, 242, .inl g))] H → va_D A [(h, .inr (2, [.int y, .int mo, .int d, .int hh, .int mi, .int ss, .ref hp, .int (nI k)])), (hp, .inl (cP, 242, .inl g))] → va_S A s.heap H locs → lv_has ls 4 [(0, .ref h), (1, .int cy), (2, .int xi)] → W p l e ({ frames := 0, cells := 0, slots := 0, locals := 0 }) s m ([.ref h] : List Value).toArray below meth c H locs 0 0 (MQ below (kc_Qi (dC, dI) kcl T.2 [(h, .inr (2, [.int y, .int mo, .int d, .int hh, .int mi, .int ss, .ref hp, .int (nI k)])), (hp, .inl (cP, 242, .inl T.1))] A) ([.ref h] : List Value).toArray s 0 0 A) (F0 m 9 ls []) := by
  obtain ⟨hx, hb, hr, hml, hown, hts, hlocks, hnm⟩ := Cx
  intro j
  induction j with
  | zero =>
    intro g cy xi hxi hj hT H locs ls hP hD hS hl
    refine lv_iload_n hx hb dX2_takeSixtiethsOfPart_9 rfl (lv_at hl 2 rfl) ?_
    refine lv_if_lt (tgt := 47) hx hb dX2_takeSixtiethsOfPart_10 (by decide) (fun c_10 => ?_) (fun c_10 => ?_)
    · refine lv_iload_n hx hb dX2_takeSixtiethsOfPart_47 rfl (lv_at hl 1 rfl) ?_
      have hP9 : va_P (dC, dI) kcl [(h, .inr (2, [.int y, .int mo, .int d, .int hh, .int mi, .int ss, .ref hp, .int (nI k)])), (hp, .inl (cP, 242, .inl T.1))] H := by
        try rw [← hT]
        exact hP.sub [0, 1] rfl
      have hD9 : va_D A [(h, .inr (2, [.int y, .int mo, .int d, .int hh, .int mi, .int ss, .ref hp, .int (nI k)])), (hp, .inl (cP, 242, .inl T.1))] := by
        try rw [← hT]
        exact hD.sub [0, 1] (by decide) rfl
      have hv9 : cy = T.2 := by
        try rw [← hT]
        try rfl
      exact kc_iret hx hb hr hlocks hv9 hP9 hD9 hS dX2_takeSixtiethsOfPart_48
    · exact absurd (show xi < 0 by rw [hxi]; decide) c_10
  | succ j ih =>
    intro g cy xi hxi hj hT H locs ls hP hD hS hl
    have hxi : xi = nI j := by rw [hxi]; exact nI_pred j
    subst hxi
    refine lv_iload_n hx hb dX2_takeSixtiethsOfPart_9 rfl (lv_at hl 2 rfl) ?_
    refine lv_if_lt (tgt := 47) hx hb dX2_takeSixtiethsOfPart_10 (by decide) (fun c_10 => ?_) (fun c_10 => ?_)
    · exact absurd c_10 (nI_pos (by omega))
    · refine lv_aload_n hx hb dX2_takeSixtiethsOfPart_13 rfl (lv_at hl 0 rfl) ?_
      refine va_get (D := (dC, dI)) (ci := 2) (v := .ref hp) (C := RX2) (T := TX2) (N := 8) hx hb hts kin_2 hown hK hP 0 rfl rfl 6 (by decide) (hts _ (kcm kwm_33)) (fun _ h9 => h9) rfl dX2_takeSixtiethsOfPart_14 ?_
      refine lv_iload_n hx hb dX2_takeSixtiethsOfPart_17 rfl (lv_at hl 2 rfl) ?_
      refine va_bald hx hb hK hP 1 0 rfl rfl (vp_in_nI (by omega) (by decide)) dX2_takeSixtiethsOfPart_18 ?_
      rw [show ((nI j)).toNatClampNeg = j from nI_clamp (by omega)]
      refine lv_bipush (v := 60) hx hb dX2_takeSixtiethsOfPart_19 (by decide) ?_
      refine lv_imul hx hb dX2_takeSixtiethsOfPart_21 ?_
      refine lv_iload_n hx hb dX2_takeSixtiethsOfPart_22 rfl (lv_at hl 1 rfl) ?_
      refine lv_iadd hx hb dX2_takeSixtiethsOfPart_23 ?_
      refine lv_istore_n (lv' := [(3, .int (((g j) * 60) + cy)), (0, .ref h), (1, .int cy), (2, .int (nI j))]) hx hb dX2_takeSixtiethsOfPart_24 rfl hl (by decide) rfl (fun ls hl => ?_)
      refine lv_aload_n hx hb dX2_takeSixtiethsOfPart_25 rfl (lv_at hl 1 rfl) ?_
      refine va_get (D := (dC, dI)) (ci := 2) (v := .ref hp) (C := RX2) (T := TX2) (N := 8) hx hb hts kin_2 hown hK hP 0 rfl rfl 6 (by decide) (hts _ (kcm kwm_33)) (fun _ h9 => h9) rfl dX2_takeSixtiethsOfPart_26 ?_
      refine lv_iload_n hx hb dX2_takeSixtiethsOfPart_29 rfl (lv_at hl 3 rfl) ?_
      refine lv_iload_n hx hb dX2_takeSixtiethsOfPart_30 rfl (lv_at hl 0 rfl) ?_
      refine lv_bipush (v := 10) hx hb dX2_takeSixtiethsOfPart_31 (by decide) ?_
      refine lv_irem hx hb dX2_takeSixtiethsOfPart_33 (by decide) ?_
      refine lv_i2b (v := ((((g j) * 60) + cy) - (((g j) * 60) + cy) / 10 * 10).toInt8.toInt32) hx hb dX2_takeSixtiethsOfPart_34 rfl ?_
      refine va_bast hx hb hK hP hD hS 1 0 rfl rfl (vp_in_nI (by omega) (by decide)) dX2_takeSixtiethsOfPart_35 (fun H locs hP hD hS => ?_)
      rw [show ((nI j)).toNatClampNeg = j from nI_clamp (by omega)] at hP hD
      have hP : va_P (dC, dI) kcl [(h, .inr (2, [.int y, .int mo, .int d, .int hh, .int mi, .int ss, .ref hp, .int (nI k)])), (hp, .inl (cP, 242, .inl (upd g j (vp_nar .byte ((((g j) * 60) + cy) - (((g j) * 60) + cy) / 10 * 10).toInt8.toInt32))))] H := hP
      have hD : va_D A [(h, .inr (2, [.int y, .int mo, .int d, .int hh, .int mi, .int ss, .ref hp, .int (nI k)])), (hp, .inl (cP, 242, .inl (upd g j (vp_nar .byte ((((g j) * 60) + cy) - (((g j) * 60) + cy) / 10 * 10).toInt8.toInt32))))] := hD
      refine lv_iload_n hx hb dX2_takeSixtiethsOfPart_36 rfl (lv_at hl 0 rfl) ?_
      refine lv_bipush (v := 10) hx hb dX2_takeSixtiethsOfPart_37 (by decide) ?_
      refine lv_idiv hx hb dX2_takeSixtiethsOfPart_39 (by decide) ?_
      refine lv_istore_n (lv' := [(1, .int ((((g j) * 60) + cy) / 10)), (3, .int (((g j) * 60) + cy)), (0, .ref h), (2, .int (nI j))]) hx hb dX2_takeSixtiethsOfPart_40 rfl hl (by decide) rfl (fun ls hl => ?_)
      refine lv_iinc (v := (nI j) + (-1)) (lv' := [(2, .int ((nI j) + (-1))), (1, .int ((((g j) * 60) + cy) / 10)), (3, .int (((g j) * 60) + cy)), (0, .ref h)]) hx hb dX2_takeSixtiethsOfPart_41 hl (k := 3) rfl (congrArg (fun z => (nI j) + z) (show Int32.ofInt (-1) = (-1 : Int32) by decide)) (by decide) rfl (fun ls hl => ?_)
      refine lv_goto (tgt := 9) hx hb dX2_takeSixtiethsOfPart_44 (by decide) ?_
      exact ih _ _ _ (kb_m1 (nI j)) (by omega) hT H locs ls hP hD hS (lv_sub hl [3, 1, 0] rfl)
set_option maxHeartbeats 4000000 in
set_option maxRecDepth 100000 in
theorem c_Mo_takeSixtieths (l : Launch) (dC : Nat → ClassId) (dI : Nat → Nat → Nat) (st sz : Nat) (h : Nat) (y : Int32) (mo : Int32) (d : Int32) (hh : Int32) (mi : Int32) (ss : Int32) (hp : Nat) (k : Nat) (cP : ClassId) (g : Nat → Int32) (hk : k ≤ 242) : Met l yX2_takeSixtiethsOfPart wsX2_takeSixtiethsOfPart ({ frames := 0, cells := 0, slots := 0, locals := 0 }) (kc_Pc (dC, dI) kcl st sz [.ref h] [(h, .inr (2, [.int y, .int mo, .int d, .int hh, .int mi, .int ss, .ref hp, .int (nI k)])), (hp, .inl (cP, 242, .inl g))] [(cP, .byte)]) (kc_Qi (dC, dI) kcl (sxL k g 0).2 [(h, .inr (2, [.int y, .int mo, .int d, .int hh, .int mi, .int ss, .ref hp, .int (nI k)])), (hp, .inl (cP, 242, .inl (sxL k g 0).1))] (va_A [(h, .inr (2, [.int y, .int mo, .int d, .int hh, .int mi, .int ss, .ref hp, .int (nI k)])), (hp, .inl (cP, 242, .inl g))] sz)) 0 0 (va_A [(h, .inr (2, [.int y, .int mo, .int d, .int hh, .int mi, .int ss, .ref hp, .int (nI k)])), (hp, .inl (cP, 242, .inl g))] sz) := by
  refine kc_ofW (Qc := fun A => (kc_Qi (dC, dI) kcl (sxL k g 0).2 [(h, .inr (2, [.int y, .int mo, .int d, .int hh, .int mi, .int ss, .ref hp, .int (nI k)])), (hp, .inl (cP, 242, .inl (sxL k g 0).1))] A)) (cc := cX2_takeSixtiethsOfPart) (maxL := 4) (ret := (some .int)) (by decide) rfl (Nat.le_of_ble_eq_true rfl) ?_
  intro p e s m below meth c A ls Cx hA hG hK hP hD hS hl
  obtain ⟨hx, hb, hr, hml, hown, hts, hlocks, hnm⟩ := id Cx
  have hl : lv_has ls 4 [(0, .ref h)] := hl
  refine lv_iconst (v := 0) hx hb dX2_takeSixtiethsOfPart_0 (by decide) ?_
  refine lv_istore_n (lv' := [(1, .int 0), (0, .ref h)]) hx hb dX2_takeSixtiethsOfPart_1 rfl hl (by decide) rfl (fun ls hl => ?_)
  refine lv_aload_n hx hb dX2_takeSixtiethsOfPart_2 rfl (lv_at hl 1 rfl) ?_
  refine va_get (D := (dC, dI)) (ci := 2) (v := .int (nI k)) (C := RX2) (T := TX2) (N := 8) hx hb hts kin_2 hown hK hP 0 rfl rfl 7 (by decide) (hts _ (kcm kwm_32)) (fun _ h9 => h9) rfl dX2_takeSixtiethsOfPart_3 ?_
  refine lv_iconst (v := 1) hx hb dX2_takeSixtiethsOfPart_6 (by decide) ?_
  refine lv_isub hx hb dX2_takeSixtiethsOfPart_7 ?_
  refine lv_istore_n (lv' := [(2, .int ((nI k) - 1)), (1, .int 0), (0, .ref h)]) hx hb dX2_takeSixtiethsOfPart_8 rfl hl (by decide) rfl (fun ls hl => ?_)
  exact lp_six dC dI st h y mo d hh mi ss hp k cP (sxL k g 0) Cx hA hG hK k g 0 _ rfl hk rfl s.heap [] ls hP hD hS (lv_sub hl [2, 1, 0] rfl)
set_option maxHeartbeats 4000000 in
set_option maxRecDepth 100000 in
theorem lp_spread {p : Program} {l : Launch} {e : Env} {s : State} {m : MethodId} {below : List Frame} {meth : Method} {c : Code} (dC : Nat → ClassId) (dI : Nat → Nat → Nat) (st : Nat) {A : Nat → Prop} (h : Nat) (y : Int32) (mo : Int32) (d : Int32) (hh : Int32) (mi : Int32) (ss : Int32) (hp : Nat) (cP : ClassId) (g : Nat → Int32) (v : Int32) (T : Nat) (Cx : kc_Cx yX2_spreadPartOf cX2_spreadPartOf none 2 wsX2_spreadPartOf p s m ([.ref h, .int v] : List Value).toArray meth c) (hA : ∀ q, s.heap.size ≤ q → A q) (hG : kg st A s) (hK : va_K (dC, dI) kcl [(cP, .byte)] s) :
    ∀ (k : Nat)  (hk : k ≤ 242) (hT : stL g k = T) (H : Heap) (locs : List Loc) (ls : Array Slot), va_P (dC, dI) kcl [(h, .inr (2, [.int y, .int mo, .int d, .int hh, .int mi, .int ss, .ref hp, .int (nI k)])), (hp, .inl (cP, 242, .inl g))] H → va_D A [(h, .inr (2, [.int y, .int mo, .int d, .int hh, .int mi, .int ss, .ref hp, .int (nI k)])), (hp, .inl (cP, 242, .inl g))] → va_S A s.heap H locs → lv_has ls 2 [(0, .ref h), (1, .int v)] → W p l e ({ frames := 1, cells := 0, slots := 0, locals := 23 }) s m ([.ref h, .int v] : List Value).toArray below meth c H locs 0 0 (MQ below (kc_Qv (dC, dI) kcl [(h, .inr (2, [.int y, .int mo, .int d, .int hh, .int mi, .int ss, .ref hp, .int (nI T)])), (hp, .inl (cP, 242, .inl g))] A) ([.ref h, .int v] : List Value).toArray s 0 0 A) (F0 m 26 ls []) := by
  obtain ⟨hx, hb, hr, hml, hown, hts, hlocks, hnm⟩ := Cx
  intro k
  induction k with
  | zero =>
    intro hk hT H locs ls hP hD hS hl
    refine lv_aload_n hx hb dX2_spreadPartOf_26 rfl (lv_at hl 0 rfl) ?_
    refine va_get (D := (dC, dI)) (ci := 2) (v := .int (nI 0)) (C := RX2) (T := TX2) (N := 8) hx hb hts kin_2 hown hK hP 0 rfl rfl 7 (by decide) (hts _ (kcm kwm_32)) (fun _ h9 => h9) rfl dX2_spreadPartOf_27 ?_
    refine lv_if_le (tgt := 60) hx hb dX2_spreadPartOf_30 (by decide) (fun c_30 => ?_) (fun c_30 => ?_)
    · have hP9 : va_P (dC, dI) kcl [(h, .inr (2, [.int y, .int mo, .int d, .int hh, .int mi, .int ss, .ref hp, .int (nI T)])), (hp, .inl (cP, 242, .inl g))] H := by
        try rw [← hT]
        exact hP.sub [0, 1] rfl
      have hD9 : va_D A [(h, .inr (2, [.int y, .int mo, .int d, .int hh, .int mi, .int ss, .ref hp, .int (nI T)])), (hp, .inl (cP, 242, .inl g))] := by
        try rw [← hT]
        exact hD.sub [0, 1] (by decide) rfl
      exact kc_vret hx hb hr hlocks hP9 hD9 hS dX2_spreadPartOf_60
    · exact absurd (show nI 0 ≤ 0 by decide) c_30
  | succ k ih =>
    intro hk hT H locs ls hP hD hS hl
    refine lv_aload_n hx hb dX2_spreadPartOf_26 rfl (lv_at hl 0 rfl) ?_
    refine va_get (D := (dC, dI)) (ci := 2) (v := .int (nI (k + 1))) (C := RX2) (T := TX2) (N := 8) hx hb hts kin_2 hown hK hP 0 rfl rfl 7 (by decide) (hts _ (kcm kwm_32)) (fun _ h9 => h9) rfl dX2_spreadPartOf_27 ?_
    refine lv_if_le (tgt := 60) hx hb dX2_spreadPartOf_30 (by decide) (fun c_30 => ?_) (fun c_30 => ?_)
    · exact absurd c_30 (nI_nle (by omega) (by omega))
    · refine lv_aload_n hx hb dX2_spreadPartOf_33 rfl (lv_at hl 0 rfl) ?_
      refine va_get (D := (dC, dI)) (ci := 2) (v := .ref hp) (C := RX2) (T := TX2) (N := 8) hx hb hts kin_2 hown hK hP 0 rfl rfl 6 (by decide) (hts _ (kcm kwm_33)) (fun _ h9 => h9) rfl dX2_spreadPartOf_34 ?_
      refine lv_aload_n hx hb dX2_spreadPartOf_37 rfl (lv_at hl 0 rfl) ?_
      refine va_get (D := (dC, dI)) (ci := 2) (v := .int (nI (k + 1))) (C := RX2) (T := TX2) (N := 8) hx hb hts kin_2 hown hK hP 0 rfl rfl 7 (by decide) (hts _ (kcm kwm_32)) (fun _ h9 => h9) rfl dX2_spreadPartOf_38 ?_
      refine lv_iconst (v := 1) hx hb dX2_spreadPartOf_41 (by decide) ?_
      refine lv_isub hx hb dX2_spreadPartOf_42 ?_
      rw [show (nI (k + 1)) - 1 = nI k from nI_pred k]
      refine va_bald hx hb hK hP 1 0 rfl rfl (vp_in_nI (by omega) (by decide)) dX2_spreadPartOf_43 ?_
      rw [show (nI k).toNatClampNeg = k from nI_clamp (by omega)]
      refine lv_if_ne (tgt := 60) hx hb dX2_spreadPartOf_44 (by decide) (fun c_44 => ?_) (fun c_44 => ?_)
      · have hT : k + 1 = T := by rw [← hT]; exact (if_neg c_44).symm
        have hP9 : va_P (dC, dI) kcl [(h, .inr (2, [.int y, .int mo, .int d, .int hh, .int mi, .int ss, .ref hp, .int (nI T)])), (hp, .inl (cP, 242, .inl g))] H := by
          try rw [← hT]
          exact hP.sub [0, 1] rfl
        have hD9 : va_D A [(h, .inr (2, [.int y, .int mo, .int d, .int hh, .int mi, .int ss, .ref hp, .int (nI T)])), (hp, .inl (cP, 242, .inl g))] := by
          try rw [← hT]
          exact hD.sub [0, 1] (by decide) rfl
        exact kc_vret hx hb hr hlocks hP9 hD9 hS dX2_spreadPartOf_60
      · refine lv_aload_n hx hb dX2_spreadPartOf_47 rfl (lv_at hl 0 rfl) ?_
        refine lv_dup hx hb dX2_spreadPartOf_48 rfl ?_
        refine va_get (D := (dC, dI)) (ci := 2) (v := .int (nI (k + 1))) (C := RX2) (T := TX2) (N := 8) hx hb hts kin_2 hown hK hP 0 rfl rfl 7 (by decide) (hts _ (kcm kwm_32)) (fun _ h9 => h9) rfl dX2_spreadPartOf_49 ?_
        refine lv_iconst (v := 1) hx hb dX2_spreadPartOf_52 (by decide) ?_
        refine lv_isub hx hb dX2_spreadPartOf_53 ?_
        rw [show (nI (k + 1)) - 1 = nI k from nI_pred k]
        refine va_put (D := (dC, dI)) (ci := 2) (v := .int (nI k)) (ty := .int) (C := RX2) (T := TX2) (N := 8) hx hb hts kin_2 tyX2 tyX2_ok nmX2 hown hK hP hD hS 0 rfl rfl 7 (by decide) (hts _ (kcm kwm_32)) (fun _ h9 => h9) rfl (by decide +kernel) rfl rfl (Nat.le_of_ble_eq_true rfl) dX2_spreadPartOf_54 (fun H locs hP hD hS => ?_)
        have hP : va_P (dC, dI) kcl [(h, .inr (2, [.int y, .int mo, .int d, .int hh, .int mi, .int ss, .ref hp, .int (nI k)])), (hp, .inl (cP, 242, .inl g))] H := hP
        have hD : va_D A [(h, .inr (2, [.int y, .int mo, .int d, .int hh, .int mi, .int ss, .ref hp, .int (nI k)])), (hp, .inl (cP, 242, .inl g))] := hD
        refine lv_goto (tgt := 26) hx hb dX2_spreadPartOf_57 (by decide) ?_
        exact ih (by omega) (by rw [← hT]; exact (if_pos c_44).symm) H locs ls (hP.sub [0, 1] rfl) (hD.sub [0, 1] (by decide) rfl) hS (lv_sub hl [0, 1] rfl)
def spread (v mi ss : Int32) (g : Nat → Int32) (k : Nat) : Int32 × Int32 × (Nat → Int32) × Nat :=
  if v = 1 then
    if v = 3 then
      ((sxL k g 0).2, ss, (sxL k g 0).1, stL (sxL k g 0).1 k)
    else
      ((sxL k g 0).2, (sxL k (sxL k g 0).1 0).2, (sxL k (sxL k g 0).1 0).1, stL (sxL k (sxL k g 0).1 0).1 k)
  else
    if v = 3 then
      (mi, ss, g, stL g k)
    else
      (mi, (sxL k g 0).2, (sxL k g 0).1, stL (sxL k g 0).1 k)
set_option maxHeartbeats 4000000 in
set_option maxRecDepth 100000 in
theorem c_Mo_spreadPartOf (l : Launch) (dC : Nat → ClassId) (dI : Nat → Nat → Nat) (st sz : Nat) (h : Nat) (y : Int32) (mo : Int32) (d : Int32) (hh : Int32) (mi : Int32) (ss : Int32) (hp : Nat) (k : Nat) (cP : ClassId) (g : Nat → Int32) (v : Int32) (hk : k ≤ 242) : Met l yX2_spreadPartOf wsX2_spreadPartOf ({ frames := 1, cells := 0, slots := 0, locals := 23 }) (kc_Pc (dC, dI) kcl st sz [.ref h, .int v] [(h, .inr (2, [.int y, .int mo, .int d, .int hh, .int mi, .int ss, .ref hp, .int (nI k)])), (hp, .inl (cP, 242, .inl g))] [(cP, .byte)]) (kc_Qv (dC, dI) kcl [(h, .inr (2, [.int y, .int mo, .int d, .int hh, .int (spread v mi ss g k).1, .int (spread v mi ss g k).2.1, .ref hp, .int (nI (spread v mi ss g k).2.2.2)])), (hp, .inl (cP, 242, .inl (spread v mi ss g k).2.2.1))] (va_A [(h, .inr (2, [.int y, .int mo, .int d, .int hh, .int mi, .int ss, .ref hp, .int (nI k)])), (hp, .inl (cP, 242, .inl g))] sz)) 0 0 (va_A [(h, .inr (2, [.int y, .int mo, .int d, .int hh, .int mi, .int ss, .ref hp, .int (nI k)])), (hp, .inl (cP, 242, .inl g))] sz) := by
  refine kc_ofW (Qc := fun A => (kc_Qv (dC, dI) kcl [(h, .inr (2, [.int y, .int mo, .int d, .int hh, .int (spread v mi ss g k).1, .int (spread v mi ss g k).2.1, .ref hp, .int (nI (spread v mi ss g k).2.2.2)])), (hp, .inl (cP, 242, .inl (spread v mi ss g k).2.2.1))] A)) (cc := cX2_spreadPartOf) (maxL := 2) (ret := none) (by decide) rfl (Nat.le_of_ble_eq_true rfl) ?_
  intro p e s m below meth c A ls Cx hA hG hK hP hD hS hl
  obtain ⟨hx, hb, hr, hml, hown, hts, hlocks, hnm⟩ := id Cx
  have hl : lv_has ls 2 [(0, .ref h), (1, .int v)] := hl
  refine lv_iload_n hx hb dX2_spreadPartOf_0 rfl (lv_at hl 1 rfl) ?_
  refine lv_iconst (v := 1) hx hb dX2_spreadPartOf_1 (by decide) ?_
  refine lv_icmp_ne (tgt := 13) hx hb dX2_spreadPartOf_2 (by decide) (fun c_2 => ?_) (fun c_2 => ?_)
  · refine lv_iload_n hx hb dX2_spreadPartOf_13 rfl (lv_at hl 1 rfl) ?_
    refine lv_iconst (v := 3) hx hb dX2_spreadPartOf_14 (by decide) ?_
    refine lv_icmp_eq (tgt := 26) hx hb dX2_spreadPartOf_15 (by decide) (fun c_15 => ?_) (fun c_15 => ?_)
    · have hF9 : spread v mi ss g k = (mi, ss, g, stL g k) := by
        first | (simp only [spread, if_neg c_2, if_pos c_15]; done) | rfl
      rw [hF9]
      exact lp_spread dC dI st h y mo d hh mi ss hp cP g v (stL g k) Cx hA hG hK k hk rfl s.heap _ ls (hP.sub [0, 1] rfl) (hD.sub [0, 1] (by decide) rfl) hS (lv_sub hl [0, 1] rfl)
    · refine lv_aload_n hx hb dX2_spreadPartOf_18 rfl (lv_at hl 0 rfl) ?_
      refine lv_aload_n hx hb dX2_spreadPartOf_19 rfl (lv_at hl 0 rfl) ?_
      have hPc := hP.sub (ws' := [(h, .inr (2, [.int y, .int mo, .int d, .int hh, .int mi, .int ss, .ref hp, .int (nI k)])), (hp, .inl (cP, 242, .inl g))]) [0, 1] rfl
      have hDc := hD.sub (ws' := [(h, .inr (2, [.int y, .int mo, .int d, .int hh, .int mi, .int ss, .ref hp, .int (nI k)])), (hp, .inl (cP, 242, .inl g))]) [0, 1] (by decide) rfl
      have hKc := hK.sub (tys' := [(cP, .byte)]) [0] rfl
      have hFc := va_free (wc := [(h, .inr (2, [.int y, .int mo, .int d, .int hh, .int mi, .int ss, .ref hp, .int (nI k)])), (hp, .inl (cP, 242, .inl g))]) hD hS hA [0, 1] rfl
      refine kc_calli (val := (sxL k g 0).2) (wr := []) (w1 := [(h, .inr (2, [.int y, .int mo, .int d, .int hh, .int mi, .int ss, .ref hp, .int (nI k)])), (hp, .inl (cP, 242, .inl (sxL k g 0).1))]) (va_runV (As := []) (rest := [.ref h]) ⟨hx, hb, hml, hown, hts⟩ (c_Mo_takeSixtieths l dC dI st s.heap.size h y mo d hh mi ss hp k cP g hk) (cwV 0 hts (kwV kwm_41 kwm_42 kwm_43 kwm_21 kwm_40) rfl rfl rfl (by decide +kernel) ⟨Nat.le_of_ble_eq_true rfl, Nat.le_of_ble_eq_true rfl⟩) ⟨kc_blind, va_recv hKc hPc (ci := 2) (q0 := 0) rfl rfl, kc_pre hG hS hFc hKc hPc hDc⟩ rfl rfl hl.1 rfl (lv_room (Nat.le_of_ble_eq_true rfl)) dX2_spreadPartOf_20 ⟨Nat.le_of_ble_eq_true rfl, Nat.le_of_ble_eq_true rfl⟩) hP hD hS hFc [0, 1] [] rfl rfl (by decide) (by decide) (fun H locs hP hD hS => ?_)
      have hP : va_P (dC, dI) kcl [(h, .inr (2, [.int y, .int mo, .int d, .int hh, .int mi, .int ss, .ref hp, .int (nI k)])), (hp, .inl (cP, 242, .inl (sxL k g 0).1))] H := hP
      have hD : va_D A [(h, .inr (2, [.int y, .int mo, .int d, .int hh, .int mi, .int ss, .ref hp, .int (nI k)])), (hp, .inl (cP, 242, .inl (sxL k g 0).1))] := hD
      refine va_put (D := (dC, dI)) (ci := 2) (v := .int (sxL k g 0).2) (ty := .int) (C := RX2) (T := TX2) (N := 8) hx hb hts kin_2 tyX2 tyX2_ok nmX2 hown hK hP hD hS 0 rfl rfl 5 (by decide) (hts _ (kcm kwm_31)) (fun _ h9 => h9) rfl (by decide +kernel) rfl rfl (Nat.le_of_ble_eq_true rfl) dX2_spreadPartOf_23 (fun H locs hP hD hS => ?_)
      have hP : va_P (dC, dI) kcl [(h, .inr (2, [.int y, .int mo, .int d, .int hh, .int mi, .int (sxL k g 0).2, .ref hp, .int (nI k)])), (hp, .inl (cP, 242, .inl (sxL k g 0).1))] H := hP
      have hD : va_D A [(h, .inr (2, [.int y, .int mo, .int d, .int hh, .int mi, .int (sxL k g 0).2, .ref hp, .int (nI k)])), (hp, .inl (cP, 242, .inl (sxL k g 0).1))] := hD
      have hF9 : spread v mi ss g k = (mi, (sxL k g 0).2, (sxL k g 0).1, stL (sxL k g 0).1 k) := by
        first | (simp only [spread, if_neg c_2, if_neg c_15]; done) | rfl
      rw [hF9]
      exact lp_spread dC dI st h y mo d hh mi (sxL k g 0).2 hp cP (sxL k g 0).1 v (stL (sxL k g 0).1 k) Cx hA hG hK k hk rfl H _ ls (hP.sub [0, 1] rfl) (hD.sub [0, 1] (by decide) rfl) hS (lv_sub hl [0, 1] rfl)
  · refine lv_aload_n hx hb dX2_spreadPartOf_5 rfl (lv_at hl 0 rfl) ?_
    refine lv_aload_n hx hb dX2_spreadPartOf_6 rfl (lv_at hl 0 rfl) ?_
    have hPc := hP.sub (ws' := [(h, .inr (2, [.int y, .int mo, .int d, .int hh, .int mi, .int ss, .ref hp, .int (nI k)])), (hp, .inl (cP, 242, .inl g))]) [0, 1] rfl
    have hDc := hD.sub (ws' := [(h, .inr (2, [.int y, .int mo, .int d, .int hh, .int mi, .int ss, .ref hp, .int (nI k)])), (hp, .inl (cP, 242, .inl g))]) [0, 1] (by decide) rfl
    have hKc := hK.sub (tys' := [(cP, .byte)]) [0] rfl
    have hFc := va_free (wc := [(h, .inr (2, [.int y, .int mo, .int d, .int hh, .int mi, .int ss, .ref hp, .int (nI k)])), (hp, .inl (cP, 242, .inl g))]) hD hS hA [0, 1] rfl
    refine kc_calli (val := (sxL k g 0).2) (wr := []) (w1 := [(h, .inr (2, [.int y, .int mo, .int d, .int hh, .int mi, .int ss, .ref hp, .int (nI k)])), (hp, .inl (cP, 242, .inl (sxL k g 0).1))]) (va_runV (As := []) (rest := [.ref h]) ⟨hx, hb, hml, hown, hts⟩ (c_Mo_takeSixtieths l dC dI st s.heap.size h y mo d hh mi ss hp k cP g hk) (cwV 0 hts (kwV kwm_41 kwm_42 kwm_43 kwm_21 kwm_40) rfl rfl rfl (by decide +kernel) ⟨Nat.le_of_ble_eq_true rfl, Nat.le_of_ble_eq_true rfl⟩) ⟨kc_blind, va_recv hKc hPc (ci := 2) (q0 := 0) rfl rfl, kc_pre hG hS hFc hKc hPc hDc⟩ rfl rfl hl.1 rfl (lv_room (Nat.le_of_ble_eq_true rfl)) dX2_spreadPartOf_7 ⟨Nat.le_of_ble_eq_true rfl, Nat.le_of_ble_eq_true rfl⟩) hP hD hS hFc [0, 1] [] rfl rfl (by decide) (by decide) (fun H locs hP hD hS => ?_)
    have hP : va_P (dC, dI) kcl [(h, .inr (2, [.int y, .int mo, .int d, .int hh, .int mi, .int ss, .ref hp, .int (nI k)])), (hp, .inl (cP, 242, .inl (sxL k g 0).1))] H := hP
    have hD : va_D A [(h, .inr (2, [.int y, .int mo, .int d, .int hh, .int mi, .int ss, .ref hp, .int (nI k)])), (hp, .inl (cP, 242, .inl (sxL k g 0).1))] := hD
    refine va_put (D := (dC, dI)) (ci := 2) (v := .int (sxL k g 0).2) (ty := .int) (C := RX2) (T := TX2) (N := 8) hx hb hts kin_2 tyX2 tyX2_ok nmX2 hown hK hP hD hS 0 rfl rfl 4 (by decide) (hts _ (kcm kwm_30)) (fun _ h9 => h9) rfl (by decide +kernel) rfl rfl (Nat.le_of_ble_eq_true rfl) dX2_spreadPartOf_10 (fun H locs hP hD hS => ?_)
    have hP : va_P (dC, dI) kcl [(h, .inr (2, [.int y, .int mo, .int d, .int hh, .int (sxL k g 0).2, .int ss, .ref hp, .int (nI k)])), (hp, .inl (cP, 242, .inl (sxL k g 0).1))] H := hP
    have hD : va_D A [(h, .inr (2, [.int y, .int mo, .int d, .int hh, .int (sxL k g 0).2, .int ss, .ref hp, .int (nI k)])), (hp, .inl (cP, 242, .inl (sxL k g 0).1))] := hD
    refine lv_iload_n hx hb dX2_spreadPartOf_13 rfl (lv_at hl 1 rfl) ?_
    refine lv_iconst (v := 3) hx hb dX2_spreadPartOf_14 (by decide) ?_
    refine lv_icmp_eq (tgt := 26) hx hb dX2_spreadPartOf_15 (by decide) (fun c_15 => ?_) (fun c_15 => ?_)
    · have hF9 : spread v mi ss g k = ((sxL k g 0).2, ss, (sxL k g 0).1, stL (sxL k g 0).1 k) := by
        first | (simp only [spread, if_pos c_2, if_pos c_15]; done) | rfl
      rw [hF9]
      exact lp_spread dC dI st h y mo d hh (sxL k g 0).2 ss hp cP (sxL k g 0).1 v (stL (sxL k g 0).1 k) Cx hA hG hK k hk rfl H _ ls (hP.sub [0, 1] rfl) (hD.sub [0, 1] (by decide) rfl) hS (lv_sub hl [0, 1] rfl)
    · refine lv_aload_n hx hb dX2_spreadPartOf_18 rfl (lv_at hl 0 rfl) ?_
      refine lv_aload_n hx hb dX2_spreadPartOf_19 rfl (lv_at hl 0 rfl) ?_
      have hPc := hP.sub (ws' := [(h, .inr (2, [.int y, .int mo, .int d, .int hh, .int (sxL k g 0).2, .int ss, .ref hp, .int (nI k)])), (hp, .inl (cP, 242, .inl (sxL k g 0).1))]) [0, 1] rfl
      have hDc := hD.sub (ws' := [(h, .inr (2, [.int y, .int mo, .int d, .int hh, .int (sxL k g 0).2, .int ss, .ref hp, .int (nI k)])), (hp, .inl (cP, 242, .inl (sxL k g 0).1))]) [0, 1] (by decide) rfl
      have hKc := hK.sub (tys' := [(cP, .byte)]) [0] rfl
      have hFc := va_free (wc := [(h, .inr (2, [.int y, .int mo, .int d, .int hh, .int (sxL k g 0).2, .int ss, .ref hp, .int (nI k)])), (hp, .inl (cP, 242, .inl (sxL k g 0).1))]) hD hS hA [0, 1] rfl
      refine kc_calli (val := (sxL k (sxL k g 0).1 0).2) (wr := []) (w1 := [(h, .inr (2, [.int y, .int mo, .int d, .int hh, .int (sxL k g 0).2, .int ss, .ref hp, .int (nI k)])), (hp, .inl (cP, 242, .inl (sxL k (sxL k g 0).1 0).1))]) (va_runV (As := []) (rest := [.ref h]) ⟨hx, hb, hml, hown, hts⟩ (c_Mo_takeSixtieths l dC dI st H.size h y mo d hh (sxL k g 0).2 ss hp k cP (sxL k g 0).1 hk) (cwV 0 hts (kwV kwm_41 kwm_42 kwm_43 kwm_21 kwm_40) rfl rfl rfl (by decide +kernel) ⟨Nat.le_of_ble_eq_true rfl, Nat.le_of_ble_eq_true rfl⟩) ⟨kc_blind, va_recv hKc hPc (ci := 2) (q0 := 0) rfl rfl, kc_pre hG hS hFc hKc hPc hDc⟩ rfl rfl hl.1 rfl (lv_room (Nat.le_of_ble_eq_true rfl)) dX2_spreadPartOf_20 ⟨Nat.le_of_ble_eq_true rfl, Nat.le_of_ble_eq_true rfl⟩) hP hD hS hFc [0, 1] [] rfl rfl (by decide) (by decide) (fun H locs hP hD hS => ?_)
      have hP : va_P (dC, dI) kcl [(h, .inr (2, [.int y, .int mo, .int d, .int hh, .int (sxL k g 0).2, .int ss, .ref hp, .int (nI k)])), (hp, .inl (cP, 242, .inl (sxL k (sxL k g 0).1 0).1))] H := hP
      have hD : va_D A [(h, .inr (2, [.int y, .int mo, .int d, .int hh, .int (sxL k g 0).2, .int ss, .ref hp, .int (nI k)])), (hp, .inl (cP, 242, .inl (sxL k (sxL k g 0).1 0).1))] := hD
      refine va_put (D := (dC, dI)) (ci := 2) (v := .int (sxL k (sxL k g 0).1 0).2) (ty := .int) (C := RX2) (T := TX2) (N := 8) hx hb hts kin_2 tyX2 tyX2_ok nmX2 hown hK hP hD hS 0 rfl rfl 5 (by decide) (hts _ (kcm kwm_31)) (fun _ h9 => h9) rfl (by decide +kernel) rfl rfl (Nat.le_of_ble_eq_true rfl) dX2_spreadPartOf_23 (fun H locs hP hD hS => ?_)
      have hP : va_P (dC, dI) kcl [(h, .inr (2, [.int y, .int mo, .int d, .int hh, .int (sxL k g 0).2, .int (sxL k (sxL k g 0).1 0).2, .ref hp, .int (nI k)])), (hp, .inl (cP, 242, .inl (sxL k (sxL k g 0).1 0).1))] H := hP
      have hD : va_D A [(h, .inr (2, [.int y, .int mo, .int d, .int hh, .int (sxL k g 0).2, .int (sxL k (sxL k g 0).1 0).2, .ref hp, .int (nI k)])), (hp, .inl (cP, 242, .inl (sxL k (sxL k g 0).1 0).1))] := hD
      have hF9 : spread v mi ss g k = ((sxL k g 0).2, (sxL k (sxL k g 0).1 0).2, (sxL k (sxL k g 0).1 0).1, stL (sxL k (sxL k g 0).1 0).1 k) := by
        first | (simp only [spread, if_pos c_2, if_neg c_15]; done) | rfl
      rw [hF9]
      exact lp_spread dC dI st h y mo d hh (sxL k g 0).2 (sxL k (sxL k g 0).1 0).2 hp cP (sxL k (sxL k g 0).1 0).1 v (stL (sxL k (sxL k g 0).1 0).1 k) Cx hA hG hK k hk rfl H _ ls (hP.sub [0, 1] rfl) (hD.sub [0, 1] (by decide) rfl) hS (lv_sub hl [0, 1] rfl)
