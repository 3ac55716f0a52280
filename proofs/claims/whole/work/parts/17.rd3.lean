set_option maxHeartbeats 4000000 in
set_option maxRecDepth 100000 in
theorem lp_part {p : Program} {l : Launch} {e : Env} {s : State} {m : MethodId} {below : List Frame} {meth : Method} {c : Code} (dC : Nat → ClassId) (dI : Nat → Nat → Nat) (st : Nat) {A : Nat → Prop} (h : Nat) (ar : Nat) (ab : Nat) (cB : ClassId) (f : Nat → Int32) (n : Nat) (ah : Int32) (hm : Nat) (y : Int32) (mo : Int32) (d : Int32) (hh : Int32) (mi : Int32) (ss : Int32) (hp : Nat) (cP : ClassId) (v : Int32) (hn : n ≤ 242) (first : Int32) (T : Nat × (Nat → Int32) × Nat) (Cx : kc_Cx yX3_readPart cX3_readPart (some .boolean) 5 wsX3_readPart p s m ([.ref h, .ref ar, .int v, .ref hm] : List Value).toArray meth c) (hA : ∀ q, s.heap.size ≤ q → A q) (hG : kg st A s) (hK : va_K (dC, dI) kcl [(cB, .byte), (cP, .byte)] s) :
    ∀ (N : Nat) (t : Nat) (k : Nat) (g : Nat → Int32) (ht : t ≤ n) (hN : n ≤ t + N) (hk : k ≤ 242) (hT : ptL f n N t g k = T) (H : Heap) (locs : List Loc) (ls : Array Slot), va_P (dC, dI) kcl [(h, .inr (3, [.int (nI t), .int ah])), (ar, .inr (0, [.ref ab, .int (nI n)])), (ab, .inl (cB, 242, .inl f)), (hm, .inr (2, [.int y, .int mo, .int d, .int hh, .int mi, .int ss, .ref hp, .int (nI k)])), (hp, .inl (cP, 242, .inl g))] H → va_D A [(h, .inr (3, [.int (nI t), .int ah])), (ar, .inr (0, [.ref ab, .int (nI n)])), (ab, .inl (cB, 242, .inl f)), (hm, .inr (2, [.int y, .int mo, .int d, .int hh, .int mi, .int ss, .ref hp, .int (nI k)])), (hp, .inl (cP, 242, .inl g))] → va_S A s.heap H locs → lv_has ls 5 [(0, .ref h), (1, .ref ar), (2, .int v), (3, .ref hm), (4, .int first)] → W p l e ({ frames := 2, cells := 0, slots := 0, locals := 44 }) s m ([.ref h, .ref ar, .int v, .ref hm] : List Value).toArray below meth c H locs 0 0 (MQ below (kc_Qi (dC, dI) kcl (bI (decide (¬ nI T.1 ≤ first))) [(h, .inr (3, [.int (nI T.1), .int ah])), (ar, .inr (0, [.ref ab, .int (nI n)])), (ab, .inl (cB, 242, .inl f)), (hm, .inr (2, [.int y, .int mo, .int d, .int hh, .int (spread v mi ss T.2.1 T.2.2).1, .int (spread v mi ss T.2.1 T.2.2).2.1, .ref hp, .int (nI (spread v mi ss T.2.1 T.2.2).2.2.2)])), (hp, .inl (cP, 242, .inl (spread v mi ss T.2.1 T.2.2).2.2.1))] A) ([.ref h, .ref ar, .int v, .ref hm] : List Value).toArray s 0 0 A) (F0 m 6 ls []) := by
  obtain ⟨hx, hb, hr, hml, hown, hts, hlocks, hnm⟩ := Cx
  intro N
  induction N with
  | zero =>
    intro t k g ht hN hk hT H locs ls hP hD hS hl
    refine lv_aload_n hx hb dX3_readPart_6 rfl (lv_at hl 0 rfl) ?_
    refine va_get (D := (dC, dI)) (ci := 3) (v := .int (nI t)) (C := RX3) (T := TX3) (N := 2) hx hb hts kin_3 hown hK hP 0 rfl rfl 0 (by decide) (hts _ (kcm kwm_61)) (fun _ h9 => h9) rfl dX3_readPart_7 ?_
    refine lv_aload_n hx hb dX3_readPart_10 rfl (lv_at hl 1 rfl) ?_
    refine va_getN (D := (dC, dI)) (ci := 0) (v := .int (nI n)) (C := RX0) (T := TX0) (N := 2) hx hb hts kin_0 hown hK hP 1 rfl rfl 1 (by decide) (kg_use hG (List.mem_of_getElem? (i := 5) (a := Cond.fieldLinkNest RX3 30 "ClockTexts$ByteRow" "length" "I" "ClockTexts") rfl)) (fun _ h9 => h9) rfl dX3_readPart_11 ?_
    refine lv_icmp_ge (tgt := 54) hx hb dX3_readPart_14 (by decide) (fun c_14 => ?_) (fun c_14 => ?_)
    · have hT : (t, g, k) = T := hT
      refine lv_aload_n hx hb dX3_readPart_54 rfl (lv_at hl 3 rfl) ?_
      refine lv_iload_n hx hb dX3_readPart_55 rfl (lv_at hl 2 rfl) ?_
      have hPc := hP.sub (ws' := [(hm, .inr (2, [.int y, .int mo, .int d, .int hh, .int mi, .int ss, .ref hp, .int (nI k)])), (hp, .inl (cP, 242, .inl g))]) [3, 4] rfl
      have hDc := hD.sub (ws' := [(hm, .inr (2, [.int y, .int mo, .int d, .int hh, .int mi, .int ss, .ref hp, .int (nI k)])), (hp, .inl (cP, 242, .inl g))]) [3, 4] (by decide) rfl
      have hKc := hK.sub (tys' := [(cP, .byte)]) [1] rfl
      have hFc := va_free (wc := [(hm, .inr (2, [.int y, .int mo, .int d, .int hh, .int mi, .int ss, .ref hp, .int (nI k)])), (hp, .inl (cP, 242, .inl g))]) hD hS hA [3, 4] rfl
      refine kc_callv (wr := [(h, .inr (3, [.int (nI t), .int ah])), (ar, .inr (0, [.ref ab, .int (nI n)])), (ab, .inl (cB, 242, .inl f))]) (w1 := [(hm, .inr (2, [.int y, .int mo, .int d, .int hh, .int (spread v mi ss g k).1, .int (spread v mi ss g k).2.1, .ref hp, .int (nI (spread v mi ss g k).2.2.2)])), (hp, .inl (cP, 242, .inl (spread v mi ss g k).2.2.1))]) (va_runV (As := [.int v]) (rest := []) ⟨hx, hb, hml, hown, hts⟩ (c_Mo_spreadPartOf l dC dI st H.size hm y mo d hh mi ss hp k cP g v hk) (cwV 1 hts (kwV kwm_65 kwm_66 kwm_67 kwm_21 kwm_64) rfl rfl rfl (by decide +kernel) ⟨Nat.le_of_ble_eq_true rfl, Nat.le_of_ble_eq_true rfl⟩) ⟨kc_blind, va_recv hKc hPc (ci := 2) (q0 := 0) rfl rfl, kc_pre hG hS hFc hKc hPc hDc⟩ rfl rfl hl.1 rfl (lv_room (Nat.le_of_ble_eq_true rfl)) dX3_readPart_56 ⟨Nat.le_of_ble_eq_true rfl, Nat.le_of_ble_eq_true rfl⟩) hP hD hS hFc [3, 4] [0, 1, 2] rfl rfl (by decide) (by decide) (fun H locs hP hD hS => ?_)
      have hP : va_P (dC, dI) kcl [(h, .inr (3, [.int (nI t), .int ah])), (ar, .inr (0, [.ref ab, .int (nI n)])), (ab, .inl (cB, 242, .inl f)), (hm, .inr (2, [.int y, .int mo, .int d, .int hh, .int (spread v mi ss g k).1, .int (spread v mi ss g k).2.1, .ref hp, .int (nI (spread v mi ss g k).2.2.2)])), (hp, .inl (cP, 242, .inl (spread v mi ss g k).2.2.1))] H := hP
      have hD : va_D A [(h, .inr (3, [.int (nI t), .int ah])), (ar, .inr (0, [.ref ab, .int (nI n)])), (ab, .inl (cB, 242, .inl f)), (hm, .inr (2, [.int y, .int mo, .int d, .int hh, .int (spread v mi ss g k).1, .int (spread v mi ss g k).2.1, .ref hp, .int (nI (spread v mi ss g k).2.2.2)])), (hp, .inl (cP, 242, .inl (spread v mi ss g k).2.2.1))] := hD
      generalize e_56 : spread v mi ss g k = v_56 at hP hD ⊢
      have hP : va_P (dC, dI) kcl [(h, .inr (3, [.int (nI t), .int ah])), (ar, .inr (0, [.ref ab, .int (nI n)])), (ab, .inl (cB, 242, .inl f)), (hm, .inr (2, [.int y, .int mo, .int d, .int hh, .int v_56.1, .int v_56.2.1, .ref hp, .int (nI v_56.2.2.2)])), (hp, .inl (cP, 242, .inl v_56.2.2.1))] H := hP
      have hD : va_D A [(h, .inr (3, [.int (nI t), .int ah])), (ar, .inr (0, [.ref ab, .int (nI n)])), (ab, .inl (cB, 242, .inl f)), (hm, .inr (2, [.int y, .int mo, .int d, .int hh, .int v_56.1, .int v_56.2.1, .ref hp, .int (nI v_56.2.2.2)])), (hp, .inl (cP, 242, .inl v_56.2.2.1))] := hD
      refine lv_aload_n hx hb dX3_readPart_59 rfl (lv_at hl 0 rfl) ?_
      refine va_get (D := (dC, dI)) (ci := 3) (v := .int (nI t)) (C := RX3) (T := TX3) (N := 2) hx hb hts kin_3 hown hK hP 0 rfl rfl 0 (by decide) (hts _ (kcm kwm_61)) (fun _ h9 => h9) rfl dX3_readPart_60 ?_
      refine lv_iload hx hb dX3_readPart_63 (lv_at hl 4 rfl) ?_
      refine lv_icmp_le (tgt := 72) hx hb dX3_readPart_65 (by decide) (fun c_65 => ?_) (fun c_65 => ?_)
      · refine lv_iconst (v := 0) hx hb dX3_readPart_72 (by decide) ?_
        subst e_56
        have hP9 : va_P (dC, dI) kcl [(h, .inr (3, [.int (nI T.1), .int ah])), (ar, .inr (0, [.ref ab, .int (nI n)])), (ab, .inl (cB, 242, .inl f)), (hm, .inr (2, [.int y, .int mo, .int d, .int hh, .int (spread v mi ss T.2.1 T.2.2).1, .int (spread v mi ss T.2.1 T.2.2).2.1, .ref hp, .int (nI (spread v mi ss T.2.1 T.2.2).2.2.2)])), (hp, .inl (cP, 242, .inl (spread v mi ss T.2.1 T.2.2).2.2.1))] H := by
          try rw [← hT]
          exact hP.sub [0, 1, 2, 3, 4] rfl
        have hD9 : va_D A [(h, .inr (3, [.int (nI T.1), .int ah])), (ar, .inr (0, [.ref ab, .int (nI n)])), (ab, .inl (cB, 242, .inl f)), (hm, .inr (2, [.int y, .int mo, .int d, .int hh, .int (spread v mi ss T.2.1 T.2.2).1, .int (spread v mi ss T.2.1 T.2.2).2.1, .ref hp, .int (nI (spread v mi ss T.2.1 T.2.2).2.2.2)])), (hp, .inl (cP, 242, .inl (spread v mi ss T.2.1 T.2.2).2.2.1))] := by
          try rw [← hT]
          exact hD.sub [0, 1, 2, 3, 4] (by decide) rfl
        have hv9 : (0 : Int32) = bI (decide (¬ nI T.1 ≤ first)) := by
          rw [← hT]; simp [bI, c_65]
          try rfl
        exact kc_zret hx hb hr hlocks hv9 (bI_nar hv9) hP9 hD9 hS dX3_readPart_73
      · refine lv_iconst (v := 1) hx hb dX3_readPart_68 (by decide) ?_
        refine lv_goto (tgt := 73) hx hb dX3_readPart_69 (by decide) ?_
        subst e_56
        have hP9 : va_P (dC, dI) kcl [(h, .inr (3, [.int (nI T.1), .int ah])), (ar, .inr (0, [.ref ab, .int (nI n)])), (ab, .inl (cB, 242, .inl f)), (hm, .inr (2, [.int y, .int mo, .int d, .int hh, .int (spread v mi ss T.2.1 T.2.2).1, .int (spread v mi ss T.2.1 T.2.2).2.1, .ref hp, .int (nI (spread v mi ss T.2.1 T.2.2).2.2.2)])), (hp, .inl (cP, 242, .inl (spread v mi ss T.2.1 T.2.2).2.2.1))] H := by
          try rw [← hT]
          exact hP.sub [0, 1, 2, 3, 4] rfl
        have hD9 : va_D A [(h, .inr (3, [.int (nI T.1), .int ah])), (ar, .inr (0, [.ref ab, .int (nI n)])), (ab, .inl (cB, 242, .inl f)), (hm, .inr (2, [.int y, .int mo, .int d, .int hh, .int (spread v mi ss T.2.1 T.2.2).1, .int (spread v mi ss T.2.1 T.2.2).2.1, .ref hp, .int (nI (spread v mi ss T.2.1 T.2.2).2.2.2)])), (hp, .inl (cP, 242, .inl (spread v mi ss T.2.1 T.2.2).2.2.1))] := by
          try rw [← hT]
          exact hD.sub [0, 1, 2, 3, 4] (by decide) rfl
        have hv9 : (1 : Int32) = bI (decide (¬ nI T.1 ≤ first)) := by
          rw [← hT]; simp [bI, c_65]
          try rfl
        exact kc_zret hx hb hr hlocks hv9 (bI_nar hv9) hP9 hD9 hS dX3_readPart_73
    · exact absurd (nI_le (show n ≤ t by omega) (by omega)) c_14
  | succ N ih =>
    intro t k g ht hN hk hT H locs ls hP hD hS hl
    refine lv_aload_n hx hb dX3_readPart_6 rfl (lv_at hl 0 rfl) ?_
    refine va_get (D := (dC, dI)) (ci := 3) (v := .int (nI t)) (C := RX3) (T := TX3) (N := 2) hx hb hts kin_3 hown hK hP 0 rfl rfl 0 (by decide) (hts _ (kcm kwm_61)) (fun _ h9 => h9) rfl dX3_readPart_7 ?_
    refine lv_aload_n hx hb dX3_readPart_10 rfl (lv_at hl 1 rfl) ?_
    refine va_getN (D := (dC, dI)) (ci := 0) (v := .int (nI n)) (C := RX0) (T := TX0) (N := 2) hx hb hts kin_0 hown hK hP 1 rfl rfl 1 (by decide) (kg_use hG (List.mem_of_getElem? (i := 5) (a := Cond.fieldLinkNest RX3 30 "ClockTexts$ByteRow" "length" "I" "ClockTexts") rfl)) (fun _ h9 => h9) rfl dX3_readPart_11 ?_
    refine lv_icmp_ge (tgt := 54) hx hb dX3_readPart_14 (by decide) (fun c_14 => ?_) (fun c_14 => ?_)
    · have hT : (t, g, k) = T := by rw [← hT]; exact (if_pos (show n ≤ t by have := kb_ge c_14 (by omega); omega)).symm
      refine lv_aload_n hx hb dX3_readPart_54 rfl (lv_at hl 3 rfl) ?_
      refine lv_iload_n hx hb dX3_readPart_55 rfl (lv_at hl 2 rfl) ?_
      have hPc := hP.sub (ws' := [(hm, .inr (2, [.int y, .int mo, .int d, .int hh, .int mi, .int ss, .ref hp, .int (nI k)])), (hp, .inl (cP, 242, .inl g))]) [3, 4] rfl
      have hDc := hD.sub (ws' := [(hm, .inr (2, [.int y, .int mo, .int d, .int hh, .int mi, .int ss, .ref hp, .int (nI k)])), (hp, .inl (cP, 242, .inl g))]) [3, 4] (by decide) rfl
      have hKc := hK.sub (tys' := [(cP, .byte)]) [1] rfl
      have hFc := va_free (wc := [(hm, .inr (2, [.int y, .int mo, .int d, .int hh, .int mi, .int ss, .ref hp, .int (nI k)])), (hp, .inl (cP, 242, .inl g))]) hD hS hA [3, 4] rfl
      refine kc_callv (wr := [(h, .inr (3, [.int (nI t), .int ah])), (ar, .inr (0, [.ref ab, .int (nI n)])), (ab, .inl (cB, 242, .inl f))]) (w1 := [(hm, .inr (2, [.int y, .int mo, .int d, .int hh, .int (spread v mi ss g k).1, .int (spread v mi ss g k).2.1, .ref hp, .int (nI (spread v mi ss g k).2.2.2)])), (hp, .inl (cP, 242, .inl (spread v mi ss g k).2.2.1))]) (va_runV (As := [.int v]) (rest := []) ⟨hx, hb, hml, hown, hts⟩ (c_Mo_spreadPartOf l dC dI st H.size hm y mo d hh mi ss hp k cP g v hk) (cwV 1 hts (kwV kwm_65 kwm_66 kwm_67 kwm_21 kwm_64) rfl rfl rfl (by decide +kernel) ⟨Nat.le_of_ble_eq_true rfl, Nat.le_of_ble_eq_true rfl⟩) ⟨kc_blind, va_recv hKc hPc (ci := 2) (q0 := 0) rfl rfl, kc_pre hG hS hFc hKc hPc hDc⟩ rfl rfl hl.1 rfl (lv_room (Nat.le_of_ble_eq_true rfl)) dX3_readPart_56 ⟨Nat.le_of_ble_eq_true rfl, Nat.le_of_ble_eq_true rfl⟩) hP hD hS hFc [3, 4] [0, 1, 2] rfl rfl (by decide) (by decide) (fun H locs hP hD hS => ?_)
      have hP : va_P (dC, dI) kcl [(h, .inr (3, [.int (nI t), .int ah])), (ar, .inr (0, [.ref ab, .int (nI n)])), (ab, .inl (cB, 242, .inl f)), (hm, .inr (2, [.int y, .int mo, .int d, .int hh, .int (spread v mi ss g k).1, .int (spread v mi ss g k).2.1, .ref hp, .int (nI (spread v mi ss g k).2.2.2)])), (hp, .inl (cP, 242, .inl (spread v mi ss g k).2.2.1))] H := hP
      have hD : va_D A [(h, .inr (3, [.int (nI t), .int ah])), (ar, .inr (0, [.ref ab, .int (nI n)])), (ab, .inl (cB, 242, .inl f)), (hm, .inr (2, [.int y, .int mo, .int d, .int hh, .int (spread v mi ss g k).1, .int (spread v mi ss g k).2.1, .ref hp, .int (nI (spread v mi ss g k).2.2.2)])), (hp, .inl (cP, 242, .inl (spread v mi ss g k).2.2.1))] := hD
      generalize e_56 : spread v mi ss g k = v_56 at hP hD ⊢
      have hP : va_P (dC, dI) kcl [(h, .inr (3, [.int (nI t), .int ah])), (ar, .inr (0, [.ref ab, .int (nI n)])), (ab, .inl (cB, 242, .inl f)), (hm, .inr (2, [.int y, .int mo, .int d, .int hh, .int v_56.1, .int v_56.2.1, .ref hp, .int (nI v_56.2.2.2)])), (hp, .inl (cP, 242, .inl v_56.2.2.1))] H := hP
      have hD : va_D A [(h, .inr (3, [.int (nI t), .int ah])), (ar, .inr (0, [.ref ab, .int (nI n)])), (ab, .inl (cB, 242, .inl f)), (hm, .inr (2, [.int y, .int mo, .int d, .int hh, .int v_56.1, .int v_56.2.1, .ref hp, .int (nI v_56.2.2.2)])), (hp, .inl (cP, 242, .inl v_56.2.2.1))] := hD
      refine lv_aload_n hx hb dX3_readPart_59 rfl (lv_at hl 0 rfl) ?_
      refine va_get (D := (dC, dI)) (ci := 3) (v := .int (nI t)) (C := RX3) (T := TX3) (N := 2) hx hb hts kin_3 hown hK hP 0 rfl rfl 0 (by decide) (hts _ (kcm kwm_61)) (fun _ h9 => h9) rfl dX3_readPart_60 ?_
      refine lv_iload hx hb dX3_readPart_63 (lv_at hl 4 rfl) ?_
      refine lv_icmp_le (tgt := 72) hx hb dX3_readPart_65 (by decide) (fun c_65 => ?_) (fun c_65 => ?_)
      · refine lv_iconst (v := 0) hx hb dX3_readPart_72 (by decide) ?_
        subst e_56
        have hP9 : va_P (dC, dI) kcl [(h, .inr (3, [.int (nI T.1), .int ah])), (ar, .inr (0, [.ref ab, .int (nI n)])), (ab, .inl (cB, 242, .inl f)), (hm, .inr (2, [.int y, .int mo, .int d, .int hh, .int (spread v mi ss T.2.1 T.2.2).1, .int (spread v mi ss T.2.1 T.2.2).2.1, .ref hp, .int (nI (spread v mi ss T.2.1 T.2.2).2.2.2)])), (hp, .inl (cP, 242, .inl (spread v mi ss T.2.1 T.2.2).2.2.1))] H := by
          try rw [← hT]
          exact hP.sub [0, 1, 2, 3, 4] rfl
        have hD9 : va_D A [(h, .inr (3, [.int (nI T.1), .int ah])), (ar, .inr (0, [.ref ab, .int (nI n)])), (ab, .inl (cB, 242, .inl f)), (hm, .inr (2, [.int y, .int mo, .int d, .int hh, .int (spread v mi ss T.2.1 T.2.2).1, .int (spread v mi ss T.2.1 T.2.2).2.1, .ref hp, .int (nI (spread v mi ss T.2.1 T.2.2).2.2.2)])), (hp, .inl (cP, 242, .inl (spread v mi ss T.2.1 T.2.2).2.2.1))] := by
          try rw [← hT]
          exact hD.sub [0, 1, 2, 3, 4] (by decide) rfl
        have hv9 : (0 : Int32) = bI (decide (¬ nI T.1 ≤ first)) := by
          rw [← hT]; simp [bI, c_65]
          try rfl
        exact kc_zret hx hb hr hlocks hv9 (bI_nar hv9) hP9 hD9 hS dX3_readPart_73
      · refine lv_iconst (v := 1) hx hb dX3_readPart_68 (by decide) ?_
        refine lv_goto (tgt := 73) hx hb dX3_readPart_69 (by decide) ?_
        subst e_56
        have hP9 : va_P (dC, dI) kcl [(h, .inr (3, [.int (nI T.1), .int ah])), (ar, .inr (0, [.ref ab, .int (nI n)])), (ab, .inl (cB, 242, .inl f)), (hm, .inr (2, [.int y, .int mo, .int d, .int hh, .int (spread v mi ss T.2.1 T.2.2).1, .int (spread v mi ss T.2.1 T.2.2).2.1, .ref hp, .int (nI (spread v mi ss T.2.1 T.2.2).2.2.2)])), (hp, .inl (cP, 242, .inl (spread v mi ss T.2.1 T.2.2).2.2.1))] H := by
          try rw [← hT]
          exact hP.sub [0, 1, 2, 3, 4] rfl
        have hD9 : va_D A [(h, .inr (3, [.int (nI T.1), .int ah])), (ar, .inr (0, [.ref ab, .int (nI n)])), (ab, .inl (cB, 242, .inl f)), (hm, .inr (2, [.int y, .int mo, .int d, .int hh, .int (spread v mi ss T.2.1 T.2.2).1, .int (spread v mi ss T.2.1 T.2.2).2.1, .ref hp, .int (nI (spread v mi ss T.2.1 T.2.2).2.2.2)])), (hp, .inl (cP, 242, .inl (spread v mi ss T.2.1 T.2.2).2.2.1))] := by
          try rw [← hT]
          exact hD.sub [0, 1, 2, 3, 4] (by decide) rfl
        have hv9 : (1 : Int32) = bI (decide (¬ nI T.1 ≤ first)) := by
          rw [← hT]; simp [bI, c_65]
          try rfl
        exact kc_zret hx hb hr hlocks hv9 (bI_nar hv9) hP9 hD9 hS dX3_readPart_73
    · have hlt : t < n := kb_lt c_14 (by omega)
      have hlt9 : ¬ n ≤ t := by omega
      refine lv_aload_n hx hb dX3_readPart_17 rfl (lv_at hl 1 rfl) ?_
      refine lv_aload_n hx hb dX3_readPart_18 rfl (lv_at hl 0 rfl) ?_
      refine va_get (D := (dC, dI)) (ci := 3) (v := .int (nI t)) (C := RX3) (T := TX3) (N := 2) hx hb hts kin_3 hown hK hP 0 rfl rfl 0 (by decide) (hts _ (kcm kwm_61)) (fun _ h9 => h9) rfl dX3_readPart_19 ?_
      have hPc := hP.sub (ws' := [(ar, .inr (0, [.ref ab, .int (nI n)])), (ab, .inl (cB, 242, .inl f))]) [1, 2] rfl
      have hDc := hD.sub (ws' := [(ar, .inr (0, [.ref ab, .int (nI n)])), (ab, .inl (cB, 242, .inl f))]) [1, 2] (by decide) rfl
      have hKc := hK.sub (tys' := [(cB, .byte)]) [0] rfl
      have hFc := va_free (wc := [(ar, .inr (0, [.ref ab, .int (nI n)])), (ab, .inl (cB, 242, .inl f))]) hD hS hA [1, 2] rfl
      refine kc_callSi (val := rDigit f n (nI t)) (va_runV (As := [.int (nI t)]) (rest := []) ⟨hx, hb, hml, hown, hts⟩ (c_Row_digitAt l dC dI st H.size ar ab cB f n (nI t) hn) (cwV 1 hts (kwV kwm_45 kwm_46 kwm_47 kwm_4 kwm_44) rfl rfl rfl (by decide +kernel) ⟨Nat.le_of_ble_eq_true rfl, Nat.le_of_ble_eq_true rfl⟩) ⟨kc_blind, va_recv hKc hPc (ci := 0) (q0 := 0) rfl rfl, kc_pre hG hS hFc hKc hPc hDc⟩ rfl rfl hl.1 rfl (lv_room (Nat.le_of_ble_eq_true rfl)) dX3_readPart_22 ⟨Nat.le_of_ble_eq_true rfl, Nat.le_of_ble_eq_true rfl⟩) ?_
      refine lv_iconst (v := (-1)) hx hb dX3_readPart_25 (by decide) ?_
      refine lv_icmp_eq (tgt := 54) hx hb dX3_readPart_26 (by decide) (fun c_26 => ?_) (fun c_26 => ?_)
      · have hT : (t, g, k) = T := by rw [← hT]; exact ((if_neg hlt9).trans (if_pos c_26)).symm
        refine lv_aload_n hx hb dX3_readPart_54 rfl (lv_at hl 3 rfl) ?_
        refine lv_iload_n hx hb dX3_readPart_55 rfl (lv_at hl 2 rfl) ?_
        have hPc := hP.sub (ws' := [(hm, .inr (2, [.int y, .int mo, .int d, .int hh, .int mi, .int ss, .ref hp, .int (nI k)])), (hp, .inl (cP, 242, .inl g))]) [3, 4] rfl
        have hDc := hD.sub (ws' := [(hm, .inr (2, [.int y, .int mo, .int d, .int hh, .int mi, .int ss, .ref hp, .int (nI k)])), (hp, .inl (cP, 242, .inl g))]) [3, 4] (by decide) rfl
        have hKc := hK.sub (tys' := [(cP, .byte)]) [1] rfl
        have hFc := va_free (wc := [(hm, .inr (2, [.int y, .int mo, .int d, .int hh, .int mi, .int ss, .ref hp, .int (nI k)])), (hp, .inl (cP, 242, .inl g))]) hD hS hA [3, 4] rfl
        refine kc_callv (wr := [(h, .inr (3, [.int (nI t), .int ah])), (ar, .inr (0, [.ref ab, .int (nI n)])), (ab, .inl (cB, 242, .inl f))]) (w1 := [(hm, .inr (2, [.int y, .int mo, .int d, .int hh, .int (spread v mi ss g k).1, .int (spread v mi ss g k).2.1, .ref hp, .int (nI (spread v mi ss g k).2.2.2)])), (hp, .inl (cP, 242, .inl (spread v mi ss g k).2.2.1))]) (va_runV (As := [.int v]) (rest := []) ⟨hx, hb, hml, hown, hts⟩ (c_Mo_spreadPartOf l dC dI st H.size hm y mo d hh mi ss hp k cP g v hk) (cwV 1 hts (kwV kwm_65 kwm_66 kwm_67 kwm_21 kwm_64) rfl rfl rfl (by decide +kernel) ⟨Nat.le_of_ble_eq_true rfl, Nat.le_of_ble_eq_true rfl⟩) ⟨kc_blind, va_recv hKc hPc (ci := 2) (q0 := 0) rfl rfl, kc_pre hG hS hFc hKc hPc hDc⟩ rfl rfl hl.1 rfl (lv_room (Nat.le_of_ble_eq_true rfl)) dX3_readPart_56 ⟨Nat.le_of_ble_eq_true rfl, Nat.le_of_ble_eq_true rfl⟩) hP hD hS hFc [3, 4] [0, 1, 2] rfl rfl (by decide) (by decide) (fun H locs hP hD hS => ?_)
        have hP : va_P (dC, dI) kcl [(h, .inr (3, [.int (nI t), .int ah])), (ar, .inr (0, [.ref ab, .int (nI n)])), (ab, .inl (cB, 242, .inl f)), (hm, .inr (2, [.int y, .int mo, .int d, .int hh, .int (spread v mi ss g k).1, .int (spread v mi ss g k).2.1, .ref hp, .int (nI (spread v mi ss g k).2.2.2)])), (hp, .inl (cP, 242, .inl (spread v mi ss g k).2.2.1))] H := hP
        have hD : va_D A [(h, .inr (3, [.int (nI t), .int ah])), (ar, .inr (0, [.ref ab, .int (nI n)])), (ab, .inl (cB, 242, .inl f)), (hm, .inr (2, [.int y, .int mo, .int d, .int hh, .int (spread v mi ss g k).1, .int (spread v mi ss g k).2.1, .ref hp, .int (nI (spread v mi ss g k).2.2.2)])), (hp, .inl (cP, 242, .inl (spread v mi ss g k).2.2.1))] := hD
        generalize e_56 : spread v mi ss g k = v_56 at hP hD ⊢
        have hP : va_P (dC, dI) kcl [(h, .inr (3, [.int (nI t), .int ah])), (ar, .inr (0, [.ref ab, .int (nI n)])), (ab, .inl (cB, 242, .inl f)), (hm, .inr (2, [.int y, .int mo, .int d, .int hh, .int v_56.1, .int v_56.2.1, .ref hp, .int (nI v_56.2.2.2)])), (hp, .inl (cP, 242, .inl v_56.2.2.1))] H := hP
        have hD : va_D A [(h, .inr (3, [.int (nI t), .int ah])), (ar, .inr (0, [.ref ab, .int (nI n)])), (ab, .inl (cB, 242, .inl f)), (hm, .inr (2, [.int y, .int mo, .int d, .int hh, .int v_56.1, .int v_56.2.1, .ref hp, .int (nI v_56.2.2.2)])), (hp, .inl (cP, 242, .inl v_56.2.2.1))] := hD
        refine lv_aload_n hx hb dX3_readPart_59 rfl (lv_at hl 0 rfl) ?_
        refine va_get (D := (dC, dI)) (ci := 3) (v := .int (nI t)) (C := RX3) (T := TX3) (N := 2) hx hb hts kin_3 hown hK hP 0 rfl rfl 0 (by decide) (hts _ (kcm kwm_61)) (fun _ h9 => h9) rfl dX3_readPart_60 ?_
        refine lv_iload hx hb dX3_readPart_63 (lv_at hl 4 rfl) ?_
        refine lv_icmp_le (tgt := 72) hx hb dX3_readPart_65 (by decide) (fun c_65 => ?_) (fun c_65 => ?_)
        · refine lv_iconst (v := 0) hx hb dX3_readPart_72 (by decide) ?_
          subst e_56
          have hP9 : va_P (dC, dI) kcl [(h, .inr (3, [.int (nI T.1), .int ah])), (ar, .inr (0, [.ref ab, .int (nI n)])), (ab, .inl (cB, 242, .inl f)), (hm, .inr (2, [.int y, .int mo, .int d, .int hh, .int (spread v mi ss T.2.1 T.2.2).1, .int (spread v mi ss T.2.1 T.2.2).2.1, .ref hp, .int (nI (spread v mi ss T.2.1 T.2.2).2.2.2)])), (hp, .inl (cP, 242, .inl (spread v mi ss T.2.1 T.2.2).2.2.1))] H := by
            try rw [← hT]
            exact hP.sub [0, 1, 2, 3, 4] rfl
          have hD9 : va_D A [(h, .inr (3, [.int (nI T.1), .int ah])), (ar, .inr (0, [.ref ab, .int (nI n)])), (ab, .inl (cB, 242, .inl f)), (hm, .inr (2, [.int y, .int mo, .int d, .int hh, .int (spread v mi ss T.2.1 T.2.2).1, .int (spread v mi ss T.2.1 T.2.2).2.1, .ref hp, .int (nI (spread v mi ss T.2.1 T.2.2).2.2.2)])), (hp, .inl (cP, 242, .inl (spread v mi ss T.2.1 T.2.2).2.2.1))] := by
            try rw [← hT]
            exact hD.sub [0, 1, 2, 3, 4] (by decide) rfl
          have hv9 : (0 : Int32) = bI (decide (¬ nI T.1 ≤ first)) := by
            rw [← hT]; simp [bI, c_65]
            try rfl
          exact kc_zret hx hb hr hlocks hv9 (bI_nar hv9) hP9 hD9 hS dX3_readPart_73
        · refine lv_iconst (v := 1) hx hb dX3_readPart_68 (by decide) ?_
          refine lv_goto (tgt := 73) hx hb dX3_readPart_69 (by decide) ?_
          subst e_56
          have hP9 : va_P (dC, dI) kcl [(h, .inr (3, [.int (nI T.1), .int ah])), (ar, .inr (0, [.ref ab, .int (nI n)])), (ab, .inl (cB, 242, .inl f)), (hm, .inr (2, [.int y, .int mo, .int d, .int hh, .int (spread v mi ss T.2.1 T.2.2).1, .int (spread v mi ss T.2.1 T.2.2).2.1, .ref hp, .int (nI (spread v mi ss T.2.1 T.2.2).2.2.2)])), (hp, .inl (cP, 242, .inl (spread v mi ss T.2.1 T.2.2).2.2.1))] H := by
            try rw [← hT]
            exact hP.sub [0, 1, 2, 3, 4] rfl
          have hD9 : va_D A [(h, .inr (3, [.int (nI T.1), .int ah])), (ar, .inr (0, [.ref ab, .int (nI n)])), (ab, .inl (cB, 242, .inl f)), (hm, .inr (2, [.int y, .int mo, .int d, .int hh, .int (spread v mi ss T.2.1 T.2.2).1, .int (spread v mi ss T.2.1 T.2.2).2.1, .ref hp, .int (nI (spread v mi ss T.2.1 T.2.2).2.2.2)])), (hp, .inl (cP, 242, .inl (spread v mi ss T.2.1 T.2.2).2.2.1))] := by
            try rw [← hT]
            exact hD.sub [0, 1, 2, 3, 4] (by decide) rfl
          have hv9 : (1 : Int32) = bI (decide (¬ nI T.1 ≤ first)) := by
            rw [← hT]; simp [bI, c_65]
            try rfl
          exact kc_zret hx hb hr hlocks hv9 (bI_nar hv9) hP9 hD9 hS dX3_readPart_73
      · refine lv_aload_n hx hb dX3_readPart_29 rfl (lv_at hl 3 rfl) ?_
        refine lv_aload_n hx hb dX3_readPart_30 rfl (lv_at hl 1 rfl) ?_
        refine lv_aload_n hx hb dX3_readPart_31 rfl (lv_at hl 0 rfl) ?_
        refine va_get (D := (dC, dI)) (ci := 3) (v := .int (nI t)) (C := RX3) (T := TX3) (N := 2) hx hb hts kin_3 hown hK hP 0 rfl rfl 0 (by decide) (hts _ (kcm kwm_61)) (fun _ h9 => h9) rfl dX3_readPart_32 ?_
        have hPc := hP.sub (ws' := [(ar, .inr (0, [.ref ab, .int (nI n)])), (ab, .inl (cB, 242, .inl f))]) [1, 2] rfl
        have hDc := hD.sub (ws' := [(ar, .inr (0, [.ref ab, .int (nI n)])), (ab, .inl (cB, 242, .inl f))]) [1, 2] (by decide) rfl
        have hKc := hK.sub (tys' := [(cB, .byte)]) [0] rfl
        have hFc := va_free (wc := [(ar, .inr (0, [.ref ab, .int (nI n)])), (ab, .inl (cB, 242, .inl f))]) hD hS hA [1, 2] rfl
        refine kc_callSi (val := rDigit f n (nI t)) (va_runV (As := [.int (nI t)]) (rest := [.ref hm]) ⟨hx, hb, hml, hown, hts⟩ (c_Row_digitAt l dC dI st H.size ar ab cB f n (nI t) hn) (cwV 1 hts (kwV kwm_45 kwm_46 kwm_47 kwm_4 kwm_44) rfl rfl rfl (by decide +kernel) ⟨Nat.le_of_ble_eq_true rfl, Nat.le_of_ble_eq_true rfl⟩) ⟨kc_blind, va_recv hKc hPc (ci := 0) (q0 := 0) rfl rfl, kc_pre hG hS hFc hKc hPc hDc⟩ rfl rfl hl.1 rfl (lv_room (Nat.le_of_ble_eq_true rfl)) dX3_readPart_35 ⟨Nat.le_of_ble_eq_true rfl, Nat.le_of_ble_eq_true rfl⟩) ?_
        have hPc := hP.sub (ws' := [(hm, .inr (2, [.int y, .int mo, .int d, .int hh, .int mi, .int ss, .ref hp, .int (nI k)])), (hp, .inl (cP, 242, .inl g))]) [3, 4] rfl
        have hDc := hD.sub (ws' := [(hm, .inr (2, [.int y, .int mo, .int d, .int hh, .int mi, .int ss, .ref hp, .int (nI k)])), (hp, .inl (cP, 242, .inl g))]) [3, 4] (by decide) rfl
        have hKc := hK.sub (tys' := [(cP, .byte)]) [1] rfl
        have hFc := va_free (wc := [(hm, .inr (2, [.int y, .int mo, .int d, .int hh, .int mi, .int ss, .ref hp, .int (nI k)])), (hp, .inl (cP, 242, .inl g))]) hD hS hA [3, 4] rfl
        refine kc_callv (wr := [(h, .inr (3, [.int (nI t), .int ah])), (ar, .inr (0, [.ref ab, .int (nI n)])), (ab, .inl (cB, 242, .inl f))]) (w1 := [(hm, .inr (2, [.int y, .int mo, .int d, .int hh, .int mi, .int ss, .ref hp, .int (nI (rApp g k (rDigit f n (nI t))).2)])), (hp, .inl (cP, 242, .inl (rApp g k (rDigit f n (nI t))).1))]) (va_runV (As := [.int (rDigit f n (nI t))]) (rest := []) ⟨hx, hb, hml, hown, hts⟩ (c_Mo_appendPartDigit l dC dI st H.size hm y mo d hh mi ss hp k cP g (rDigit f n (nI t)) hk) (cwV 1 hts (kwV kwm_69 kwm_70 kwm_71 kwm_21 kwm_68) rfl rfl rfl (by decide +kernel) ⟨Nat.le_of_ble_eq_true rfl, Nat.le_of_ble_eq_true rfl⟩) ⟨kc_blind, va_recv hKc hPc (ci := 2) (q0 := 0) rfl rfl, kc_pre hG hS hFc hKc hPc hDc⟩ rfl rfl hl.1 rfl (lv_room (Nat.le_of_ble_eq_true rfl)) dX3_readPart_38 ⟨Nat.le_of_ble_eq_true rfl, Nat.le_of_ble_eq_true rfl⟩) hP hD hS hFc [3, 4] [0, 1, 2] rfl rfl (by decide) (by decide) (fun H locs hP hD hS => ?_)
        have hP : va_P (dC, dI) kcl [(h, .inr (3, [.int (nI t), .int ah])), (ar, .inr (0, [.ref ab, .int (nI n)])), (ab, .inl (cB, 242, .inl f)), (hm, .inr (2, [.int y, .int mo, .int d, .int hh, .int mi, .int ss, .ref hp, .int (nI (rApp g k (rDigit f n (nI t))).2)])), (hp, .inl (cP, 242, .inl (rApp g k (rDigit f n (nI t))).1))] H := hP
        have hD : va_D A [(h, .inr (3, [.int (nI t), .int ah])), (ar, .inr (0, [.ref ab, .int (nI n)])), (ab, .inl (cB, 242, .inl f)), (hm, .inr (2, [.int y, .int mo, .int d, .int hh, .int mi, .int ss, .ref hp, .int (nI (rApp g k (rDigit f n (nI t))).2)])), (hp, .inl (cP, 242, .inl (rApp g k (rDigit f n (nI t))).1))] := hD
        generalize e_38 : rApp g k (rDigit f n (nI t)) = v_38 at hP hD ⊢
        have hP : va_P (dC, dI) kcl [(h, .inr (3, [.int (nI t), .int ah])), (ar, .inr (0, [.ref ab, .int (nI n)])), (ab, .inl (cB, 242, .inl f)), (hm, .inr (2, [.int y, .int mo, .int d, .int hh, .int mi, .int ss, .ref hp, .int (nI v_38.2)])), (hp, .inl (cP, 242, .inl v_38.1))] H := hP
        have hD : va_D A [(h, .inr (3, [.int (nI t), .int ah])), (ar, .inr (0, [.ref ab, .int (nI n)])), (ab, .inl (cB, 242, .inl f)), (hm, .inr (2, [.int y, .int mo, .int d, .int hh, .int mi, .int ss, .ref hp, .int (nI v_38.2)])), (hp, .inl (cP, 242, .inl v_38.1))] := hD
        refine lv_aload_n hx hb dX3_readPart_41 rfl (lv_at hl 0 rfl) ?_
        refine lv_dup hx hb dX3_readPart_42 rfl ?_
        refine va_get (D := (dC, dI)) (ci := 3) (v := .int (nI t)) (C := RX3) (T := TX3) (N := 2) hx hb hts kin_3 hown hK hP 0 rfl rfl 0 (by decide) (hts _ (kcm kwm_61)) (fun _ h9 => h9) rfl dX3_readPart_43 ?_
        refine lv_iconst (v := 1) hx hb dX3_readPart_46 (by decide) ?_
        refine lv_iadd hx hb dX3_readPart_47 ?_
        refine va_put (D := (dC, dI)) (ci := 3) (v := .int ((nI t) + 1)) (ty := .int) (C := RX3) (T := TX3) (N := 2) hx hb hts kin_3 tyX3 tyX3_ok nmX3 hown hK hP hD hS 0 rfl rfl 0 (by decide) (hts _ (kcm kwm_61)) (fun _ h9 => h9) rfl (by decide +kernel) rfl rfl (Nat.le_of_ble_eq_true rfl) dX3_readPart_48 (fun H locs hP hD hS => ?_)
        have hP : va_P (dC, dI) kcl [(h, .inr (3, [.int ((nI t) + 1), .int ah])), (ar, .inr (0, [.ref ab, .int (nI n)])), (ab, .inl (cB, 242, .inl f)), (hm, .inr (2, [.int y, .int mo, .int d, .int hh, .int mi, .int ss, .ref hp, .int (nI v_38.2)])), (hp, .inl (cP, 242, .inl v_38.1))] H := hP
        have hD : va_D A [(h, .inr (3, [.int ((nI t) + 1), .int ah])), (ar, .inr (0, [.ref ab, .int (nI n)])), (ab, .inl (cB, 242, .inl f)), (hm, .inr (2, [.int y, .int mo, .int d, .int hh, .int mi, .int ss, .ref hp, .int (nI v_38.2)])), (hp, .inl (cP, 242, .inl v_38.1))] := hD
        refine lv_goto (tgt := 6) hx hb dX3_readPart_51 (by decide) ?_
        subst e_38
        rw [nI_1] at hP hD
        exact ih (t + 1) _ _ (Nat.succ_le_of_lt hlt) (by omega) (rApp_le hk) (by rw [← hT]; exact ((if_neg hlt9).trans (if_neg c_26)).symm) H locs ls (hP.sub [0, 1, 2, 3, 4] rfl) (hD.sub [0, 1, 2, 3, 4] (by decide) rfl) hS (lv_sub hl [0, 1, 2, 3, 4] rfl)
set_option maxHeartbeats 4000000 in
set_option maxRecDepth 100000 in
theorem c_Rd_readPart (l : Launch) (dC : Nat → ClassId) (dI : Nat → Nat → Nat) (st sz : Nat) (h : Nat) (ar : Nat) (ab : Nat) (cB : ClassId) (f : Nat → Int32) (n : Nat) (ah : Int32) (t : Nat) (hm : Nat) (y : Int32) (mo : Int32) (d : Int32) (hh : Int32) (mi : Int32) (ss : Int32) (hp : Nat) (k : Nat) (cP : ClassId) (g : Nat → Int32) (v : Int32) (hn : n ≤ 242) (ht : t ≤ n) (hk : k ≤ 242) : Met l yX3_readPart wsX3_readPart ({ frames := 2, cells := 0, slots := 0, locals := 44 }) (kc_Pc (dC, dI) kcl st sz [.ref h, .ref ar, .int v, .ref hm] [(h, .inr (3, [.int (nI t), .int ah])), (ar, .inr (0, [.ref ab, .int (nI n)])), (ab, .inl (cB, 242, .inl f)), (hm, .inr (2, [.int y, .int mo, .int d, .int hh, .int mi, .int ss, .ref hp, .int (nI k)])), (hp, .inl (cP, 242, .inl g))] [(cB, .byte), (cP, .byte)]) (kc_Qi (dC, dI) kcl (bI (decide (¬ nI (ptL f n (n - t) t g k).1 ≤ nI t))) [(h, .inr (3, [.int (nI (ptL f n (n - t) t g k).1), .int ah])), (ar, .inr (0, [.ref ab, .int (nI n)])), (ab, .inl (cB, 242, .inl f)), (hm, .inr (2, [.int y, .int mo, .int d, .int hh, .int (spread v mi ss (ptL f n (n - t) t g k).2.1 (ptL f n (n - t) t g k).2.2).1, .int (spread v mi ss (ptL f n (n - t) t g k).2.1 (ptL f n (n - t) t g k).2.2).2.1, .ref hp, .int (nI (spread v mi ss (ptL f n (n - t) t g k).2.1 (ptL f n (n - t) t g k).2.2).2.2.2)])), (hp, .inl (cP, 242, .inl (spread v mi ss (ptL f n (n - t) t g k).2.1 (ptL f n (n - t) t g k).2.2).2.2.1))] (va_A [(h, .inr (3, [.int (nI t), .int ah])), (ar, .inr (0, [.ref ab, .int (nI n)])), (ab, .inl (cB, 242, .inl f)), (hm, .inr (2, [.int y, .int mo, .int d, .int hh, .int mi, .int ss, .ref hp, .int (nI k)])), (hp, .inl (cP, 242, .inl g))] sz)) 0 0 (va_A [(h, .inr (3, [.int (nI t), .int ah])), (ar, .inr (0, [.ref ab, .int (nI n)])), (ab, .inl (cB, 242, .inl f)), (hm, .inr (2, [.int y, .int mo, .int d, .int hh, .int mi, .int ss, .ref hp, .int (nI k)])), (hp, .inl (cP, 242, .inl g))] sz) := by
  refine kc_ofW (Qc := fun A => (kc_Qi (dC, dI) kcl (bI (decide (¬ nI (ptL f n (n - t) t g k).1 ≤ nI t))) [(h, .inr (3, [.int (nI (ptL f n (n - t) t g k).1), .int ah])), (ar, .inr (0, [.ref ab, .int (nI n)])), (ab, .inl (cB, 242, .inl f)), (hm, .inr (2, [.int y, .int mo, .int d, .int hh, .int (spread v mi ss (ptL f n (n - t) t g k).2.1 (ptL f n (n - t) t g k).2.2).1, .int (spread v mi ss (ptL f n (n - t) t g k).2.1 (ptL f n (n - t) t g k).2.2).2.1, .ref hp, .int (nI (spread v mi ss (ptL f n (n - t) t g k).2.1 (ptL f n (n - t) t g k).2.2).2.2.2)])), (hp, .inl (cP, 242, .inl (spread v mi ss (ptL f n (n - t) t g k).2.1 (ptL f n (n - t) t g k).2.2).2.2.1))] A)) (cc := cX3_readPart) (maxL := 5) (ret := (some .boolean)) (by decide) rfl (Nat.le_of_ble_eq_true rfl) ?_
  intro p e s m below meth c A ls Cx hA hG hK hP hD hS hl
  obtain ⟨hx, hb, hr, hml, hown, hts, hlocks, hnm⟩ := id Cx
  have hl : lv_has ls 5 [(0, .ref h), (1, .ref ar), (2, .int v), (3, .ref hm)] := hl
  refine lv_aload_n hx hb dX3_readPart_0 rfl (lv_at hl 0 rfl) ?_
  refine va_get (D := (dC, dI)) (ci := 3) (v := .int (nI t)) (C := RX3) (T := TX3) (N := 2) hx hb hts kin_3 hown hK hP 0 rfl rfl 0 (by decide) (hts _ (kcm kwm_61)) (fun _ h9 => h9) rfl dX3_readPart_1 ?_
  refine lv_istore (lv' := [(4, .int (nI t)), (0, .ref h), (1, .ref ar), (2, .int v), (3, .ref hm)]) hx hb dX3_readPart_4 hl (by decide) rfl (fun ls hl => ?_)
  exact lp_part dC dI st h ar ab cB f n ah hm y mo d hh mi ss hp cP v hn (nI t) (ptL f n (n - t) t g k) Cx hA hG hK (n - t) t k g ht (by omega) hk rfl s.heap [] ls hP hD hS (lv_sub hl [1, 2, 3, 4, 0] rfl)
def rdClock (f : Nat → Int32) (n : Nat) (kind ta hh mi ss : Int32) (g : Nat → Int32) (k : Nat) : Bool × Int32 × Int32 × Int32 × Int32 × (Nat → Int32) × Nat :=
  let v_3 := rdUnits f n ta hh mi ss
  if v_3.1 = (-1) then
    (false, v_3.2.1, v_3.2.2.1, v_3.2.2.2.1, v_3.2.2.2.2, g, k)
  else
    if kind = 0 then
      if v_3.1 < 2 then
        (false, v_3.2.1, v_3.2.2.1, v_3.2.2.2.1, v_3.2.2.2.2, g, k)
      else
        (true, v_3.2.1, v_3.2.2.1, v_3.2.2.2.1, v_3.2.2.2.2, g, k)
    else
      if (rByte f n v_3.2.1) = 46 then
        ((decide (¬ nI (ptL f n (n - (v_3.2.1 + 1).toNatClampNeg) (v_3.2.1 + 1).toNatClampNeg g k).1 ≤ nI (v_3.2.1 + 1).toNatClampNeg)), nI (ptL f n (n - (v_3.2.1 + 1).toNatClampNeg) (v_3.2.1 + 1).toNatClampNeg g k).1, v_3.2.2.1, (spread v_3.1 v_3.2.2.2.1 v_3.2.2.2.2 (ptL f n (n - (v_3.2.1 + 1).toNatClampNeg) (v_3.2.1 + 1).toNatClampNeg g k).2.1 (ptL f n (n - (v_3.2.1 + 1).toNatClampNeg) (v_3.2.1 + 1).toNatClampNeg g k).2.2).1, (spread v_3.1 v_3.2.2.2.1 v_3.2.2.2.2 (ptL f n (n - (v_3.2.1 + 1).toNatClampNeg) (v_3.2.1 + 1).toNatClampNeg g k).2.1 (ptL f n (n - (v_3.2.1 + 1).toNatClampNeg) (v_3.2.1 + 1).toNatClampNeg g k).2.2).2.1, (spread v_3.1 v_3.2.2.2.1 v_3.2.2.2.2 (ptL f n (n - (v_3.2.1 + 1).toNatClampNeg) (v_3.2.1 + 1).toNatClampNeg g k).2.1 (ptL f n (n - (v_3.2.1 + 1).toNatClampNeg) (v_3.2.1 + 1).toNatClampNeg g k).2.2).2.2.1, (spread v_3.1 v_3.2.2.2.1 v_3.2.2.2.2 (ptL f n (n - (v_3.2.1 + 1).toNatClampNeg) (v_3.2.1 + 1).toNatClampNeg g k).2.1 (ptL f n (n - (v_3.2.1 + 1).toNatClampNeg) (v_3.2.1 + 1).toNatClampNeg g k).2.2).2.2.2)
      else
        if (rByte f n v_3.2.1) = 44 then
          ((decide (¬ nI (ptL f n (n - (v_3.2.1 + 1).toNatClampNeg) (v_3.2.1 + 1).toNatClampNeg g k).1 ≤ nI (v_3.2.1 + 1).toNatClampNeg)), nI (ptL f n (n - (v_3.2.1 + 1).toNatClampNeg) (v_3.2.1 + 1).toNatClampNeg g k).1, v_3.2.2.1, (spread v_3.1 v_3.2.2.2.1 v_3.2.2.2.2 (ptL f n (n - (v_3.2.1 + 1).toNatClampNeg) (v_3.2.1 + 1).toNatClampNeg g k).2.1 (ptL f n (n - (v_3.2.1 + 1).toNatClampNeg) (v_3.2.1 + 1).toNatClampNeg g k).2.2).1, (spread v_3.1 v_3.2.2.2.1 v_3.2.2.2.2 (ptL f n (n - (v_3.2.1 + 1).toNatClampNeg) (v_3.2.1 + 1).toNatClampNeg g k).2.1 (ptL f n (n - (v_3.2.1 + 1).toNatClampNeg) (v_3.2.1 + 1).toNatClampNeg g k).2.2).2.1, (spread v_3.1 v_3.2.2.2.1 v_3.2.2.2.2 (ptL f n (n - (v_3.2.1 + 1).toNatClampNeg) (v_3.2.1 + 1).toNatClampNeg g k).2.1 (ptL f n (n - (v_3.2.1 + 1).toNatClampNeg) (v_3.2.1 + 1).toNatClampNeg g k).2.2).2.2.1, (spread v_3.1 v_3.2.2.2.1 v_3.2.2.2.2 (ptL f n (n - (v_3.2.1 + 1).toNatClampNeg) (v_3.2.1 + 1).toNatClampNeg g k).2.1 (ptL f n (n - (v_3.2.1 + 1).toNatClampNeg) (v_3.2.1 + 1).toNatClampNeg g k).2.2).2.2.2)
        else
          (true, v_3.2.1, v_3.2.2.1, v_3.2.2.2.1, v_3.2.2.2.2, g, k)
set_option maxHeartbeats 4000000 in
set_option maxRecDepth 100000 in
theorem c_Rd_readClock (l : Launch) (dC : Nat → ClassId) (dI : Nat → Nat → Nat) (st sz : Nat) (h : Nat) (ar : Nat) (ab : Nat) (cB : ClassId) (f : Nat → Int32) (n : Nat) (ta : Int32) (ah : Int32) (hm : Nat) (y : Int32) (mo : Int32) (d : Int32) (hh : Int32) (mi : Int32) (ss : Int32) (hp : Nat) (k : Nat) (cP : ClassId) (g : Nat → Int32) (kind : Int32) (hn : n ≤ 242) (hk : k ≤ 242) : Met l yX3_readClock wsX3_readClock ({ frames := 4, cells := 0, slots := 0, locals := 91 }) (kc_Pc (dC, dI) kcl st sz [.ref h, .ref ar, .int kind, .ref hm] [(h, .inr (3, [.int ta, .int ah])), (ar, .inr (0, [.ref ab, .int (nI n)])), (ab, .inl (cB, 242, .inl f)), (hm, .inr (2, [.int y, .int mo, .int d, .int hh, .int mi, .int ss, .ref hp, .int (nI k)])), (hp, .inl (cP, 242, .inl g))] [(cB, .byte), (cP, .byte)]) (kc_Qi (dC, dI) kcl (bI (rdClock f n kind ta hh mi ss g k).1) [(h, .inr (3, [.int (rdClock f n kind ta hh mi ss g k).2.1, .int ah])), (ar, .inr (0, [.ref ab, .int (nI n)])), (ab, .inl (cB, 242, .inl f)), (hm, .inr (2, [.int y, .int mo, .int d, .int (rdClock f n kind ta hh mi ss g k).2.2.1, .int (rdClock f n kind ta hh mi ss g k).2.2.2.1, .int (rdClock f n kind ta hh mi ss g k).2.2.2.2.1, .ref hp, .int (nI (rdClock f n kind ta hh mi ss g k).2.2.2.2.2.2)])), (hp, .inl (cP, 242, .inl (rdClock f n kind ta hh mi ss g k).2.2.2.2.2.1))] (va_A [(h, .inr (3, [.int ta, .int ah])), (ar, .inr (0, [.ref ab, .int (nI n)])), (ab, .inl (cB, 242, .inl f)), (hm, .inr (2, [.int y, .int mo, .int d, .int hh, .int mi, .int ss, .ref hp, .int (nI k)])), (hp, .inl (cP, 242, .inl g))] sz)) 0 0 (va_A [(h, .inr (3, [.int ta, .int ah])), (ar, .inr (0, [.ref ab, .int (nI n)])), (ab, .inl (cB, 242, .inl f)), (hm, .inr (2, [.int y, .int mo, .int d, .int hh, .int mi, .int ss, .ref hp, .int (nI k)])), (hp, .inl (cP, 242, .inl g))] sz) := by
  refine kc_ofW (Qc := fun A => (kc_Qi (dC, dI) kcl (bI (rdClock f n kind ta hh mi ss g k).1) [(h, .inr (3, [.int (rdClock f n kind ta hh mi ss g k).2.1, .int ah])), (ar, .inr (0, [.ref ab, .int (nI n)])), (ab, .inl (cB, 242, .inl f)), (hm, .inr (2, [.int y, .int mo, .int d, .int (rdClock f n kind ta hh mi ss g k).2.2.1, .int (rdClock f n kind ta hh mi ss g k).2.2.2.1, .int (rdClock f n kind ta hh mi ss g k).2.2.2.2.1, .ref hp, .int (nI (rdClock f n kind ta hh mi ss g k).2.2.2.2.2.2)])), (hp, .inl (cP, 242, .inl (rdClock f n kind ta hh mi ss g k).2.2.2.2.2.1))] A)) (cc := cX3_readClock) (maxL := 6) (ret := (some .boolean)) (by decide) rfl (Nat.le_of_ble_eq_true rfl) ?_
  intro p e s m below meth c A ls Cx hA hG hK hP hD hS hl
  obtain ⟨hx, hb, hr, hml, hown, hts, hlocks, hnm⟩ := id Cx
  have hl : lv_has ls 6 [(0, .ref h), (1, .ref ar), (2, .int kind), (3, .ref hm)] := hl
  refine lv_aload_n hx hb dX3_readClock_0 rfl (lv_at hl 0 rfl) ?_
  refine lv_aload_n hx hb dX3_readClock_1 rfl (lv_at hl 1 rfl) ?_
  refine lv_aload_n hx hb dX3_readClock_2 rfl (lv_at hl 3 rfl) ?_
  have hPc := hP.sub (ws' := [(h, .inr (3, [.int ta, .int ah])), (ar, .inr (0, [.ref ab, .int (nI n)])), (ab, .inl (cB, 242, .inl f)), (hm, .inr (2, [.int y, .int mo, .int d, .int hh, .int mi, .int ss, .ref hp, .int (nI k)]))]) [0, 1, 2, 3] rfl
  have hDc := hD.sub (ws' := [(h, .inr (3, [.int ta, .int ah])), (ar, .inr (0, [.ref ab, .int (nI n)])), (ab, .inl (cB, 242, .inl f)), (hm, .inr (2, [.int y, .int mo, .int d, .int hh, .int mi, .int ss, .ref hp, .int (nI k)]))]) [0, 1, 2, 3] (by decide) rfl
  have hKc := hK.sub (tys' := [(cB, .byte)]) [0] rfl
  have hFc := va_free (wc := [(h, .inr (3, [.int ta, .int ah])), (ar, .inr (0, [.ref ab, .int (nI n)])), (ab, .inl (cB, 242, .inl f)), (hm, .inr (2, [.int y, .int mo, .int d, .int hh, .int mi, .int ss, .ref hp, .int (nI k)]))]) hD hS hA [0, 1, 2, 3] rfl
  refine kc_calli (val := (rdUnits f n ta hh mi ss).1) (wr := [(hp, .inl (cP, 242, .inl g))]) (w1 := [(h, .inr (3, [.int (rdUnits f n ta hh mi ss).2.1, .int ah])), (ar, .inr (0, [.ref ab, .int (nI n)])), (ab, .inl (cB, 242, .inl f)), (hm, .inr (2, [.int y, .int mo, .int d, .int (rdUnits f n ta hh mi ss).2.2.1, .int (rdUnits f n ta hh mi ss).2.2.2.1, .int (rdUnits f n ta hh mi ss).2.2.2.2, .ref hp, .int (nI k)]))]) (va_runV (As := [.ref ar, .ref hm]) (rest := []) ⟨hx, hb, hml, hown, hts⟩ (c_Rd_readUnits l dC dI st s.heap.size h ar ab cB f n ta ah hm y mo d hh mi ss hp k hn) (cwV 2 hts (kwV kwm_73 kwm_74 kwm_75 kwm_52 kwm_72) rfl rfl rfl (by decide +kernel) ⟨Nat.le_of_ble_eq_true rfl, Nat.le_of_ble_eq_true rfl⟩) ⟨kc_blind, va_recv hKc hPc (ci := 3) (q0 := 0) rfl rfl, kc_pre hG hS hFc hKc hPc hDc⟩ rfl rfl hl.1 rfl (lv_room (Nat.le_of_ble_eq_true rfl)) dX3_readClock_3 ⟨Nat.le_of_ble_eq_true rfl, Nat.le_of_ble_eq_true rfl⟩) hP hD hS hFc [0, 1, 2, 3] [4] rfl rfl (by decide) (by decide) (fun H locs hP hD hS => ?_)
  have hP : va_P (dC, dI) kcl [(hp, .inl (cP, 242, .inl g)), (h, .inr (3, [.int (rdUnits f n ta hh mi ss).2.1, .int ah])), (ar, .inr (0, [.ref ab, .int (nI n)])), (ab, .inl (cB, 242, .inl f)), (hm, .inr (2, [.int y, .int mo, .int d, .int (rdUnits f n ta hh mi ss).2.2.1, .int (rdUnits f n ta hh mi ss).2.2.2.1, .int (rdUnits f n ta hh mi ss).2.2.2.2, .ref hp, .int (nI k)]))] H := hP
  have hD : va_D A [(hp, .inl (cP, 242, .inl g)), (h, .inr (3, [.int (rdUnits f n ta hh mi ss).2.1, .int ah])), (ar, .inr (0, [.ref ab, .int (nI n)])), (ab, .inl (cB, 242, .inl f)), (hm, .inr (2, [.int y, .int mo, .int d, .int (rdUnits f n ta hh mi ss).2.2.1, .int (rdUnits f n ta hh mi ss).2.2.2.1, .int (rdUnits f n ta hh mi ss).2.2.2.2, .ref hp, .int (nI k)]))] := hD
  generalize e_3 : rdUnits f n ta hh mi ss = v_3 at hP hD ⊢
  have hP : va_P (dC, dI) kcl [(hp, .inl (cP, 242, .inl g)), (h, .inr (3, [.int v_3.2.1, .int ah])), (ar, .inr (0, [.ref ab, .int (nI n)])), (ab, .inl (cB, 242, .inl f)), (hm, .inr (2, [.int y, .int mo, .int d, .int v_3.2.2.1, .int v_3.2.2.2.1, .int v_3.2.2.2.2, .ref hp, .int (nI k)]))] H := hP
  have hD : va_D A [(hp, .inl (cP, 242, .inl g)), (h, .inr (3, [.int v_3.2.1, .int ah])), (ar, .inr (0, [.ref ab, .int (nI n)])), (ab, .inl (cB, 242, .inl f)), (hm, .inr (2, [.int y, .int mo, .int d, .int v_3.2.2.1, .int v_3.2.2.2.1, .int v_3.2.2.2.2, .ref hp, .int (nI k)]))] := hD
  refine lv_istore (lv' := [(4, .int v_3.1), (0, .ref h), (1, .ref ar), (2, .int kind), (3, .ref hm)]) hx hb dX3_readClock_6 hl (by decide) rfl (fun ls hl => ?_)
  refine lv_iload hx hb dX3_readClock_8 (lv_at hl 0 rfl) ?_
  refine lv_iconst (v := (-1)) hx hb dX3_readClock_10 (by decide) ?_
  refine lv_icmp_ne (tgt := 16) hx hb dX3_readClock_11 (by decide) (fun c_11 => ?_) (fun c_11 => ?_)
  · refine lv_iload_n hx hb dX3_readClock_16 rfl (lv_at hl 3 rfl) ?_
    refine lv_if_ne (tgt := 32) hx hb dX3_readClock_17 (by decide) (fun c_17 => ?_) (fun c_17 => ?_)
    · refine lv_aload_n hx hb dX3_readClock_32 rfl (lv_at hl 2 rfl) ?_
      refine lv_aload_n hx hb dX3_readClock_33 rfl (lv_at hl 1 rfl) ?_
      refine va_get (D := (dC, dI)) (ci := 3) (v := .int v_3.2.1) (C := RX3) (T := TX3) (N := 2) hx hb hts kin_3 hown hK hP 1 rfl rfl 0 (by decide) (hts _ (kcm kwm_61)) (fun _ h9 => h9) rfl dX3_readClock_34 ?_
      have hPc := hP.sub (ws' := [(ar, .inr (0, [.ref ab, .int (nI n)])), (ab, .inl (cB, 242, .inl f))]) [2, 3] rfl
      have hDc := hD.sub (ws' := [(ar, .inr (0, [.ref ab, .int (nI n)])), (ab, .inl (cB, 242, .inl f))]) [2, 3] (by decide) rfl
      have hKc := hK.sub (tys' := [(cB, .byte)]) [0] rfl
      have hFc := va_free (wc := [(ar, .inr (0, [.ref ab, .int (nI n)])), (ab, .inl (cB, 242, .inl f))]) hD hS hA [2, 3] rfl
      refine kc_callSi (val := rByte f n v_3.2.1) (va_runV (As := [.int v_3.2.1]) (rest := []) ⟨hx, hb, hml, hown, hts⟩ (c_Row_byteAt l dC dI st H.size ar ab cB f n v_3.2.1 hn) (cwV 1 hts (kwV kwm_62 kwm_7 kwm_8 kwm_4 kwm_5) rfl rfl rfl (by decide +kernel) ⟨Nat.le_of_ble_eq_true rfl, Nat.le_of_ble_eq_true rfl⟩) ⟨kc_blind, va_recv hKc hPc (ci := 0) (q0 := 0) rfl rfl, kc_pre hG hS hFc hKc hPc hDc⟩ rfl rfl hl.1 rfl (lv_room (Nat.le_of_ble_eq_true rfl)) dX3_readClock_37 ⟨Nat.le_of_ble_eq_true rfl, Nat.le_of_ble_eq_true rfl⟩) ?_
      refine lv_istore (lv' := [(5, .int (rByte f n v_3.2.1)), (4, .int v_3.1), (0, .ref h), (1, .ref ar), (2, .int kind), (3, .ref hm)]) hx hb dX3_readClock_40 hl (by decide) rfl (fun ls hl => ?_)
      refine lv_iload hx hb dX3_readClock_42 (lv_at hl 0 rfl) ?_
      refine lv_bipush (v := 46) hx hb dX3_readClock_44 (by decide) ?_
      refine lv_icmp_eq (tgt := 58) hx hb dX3_readClock_46 (by decide) (fun c_46 => ?_) (fun c_46 => ?_)
      · refine lv_aload_n hx hb dX3_readClock_58 rfl (lv_at hl 2 rfl) ?_
        refine lv_dup hx hb dX3_readClock_59 rfl ?_
        refine va_get (D := (dC, dI)) (ci := 3) (v := .int v_3.2.1) (C := RX3) (T := TX3) (N := 2) hx hb hts kin_3 hown hK hP 1 rfl rfl 0 (by decide) (hts _ (kcm kwm_61)) (fun _ h9 => h9) rfl dX3_readClock_60 ?_
        refine lv_iconst (v := 1) hx hb dX3_readClock_63 (by decide) ?_
        refine lv_iadd hx hb dX3_readClock_64 ?_
        refine va_put (D := (dC, dI)) (ci := 3) (v := .int (v_3.2.1 + 1)) (ty := .int) (C := RX3) (T := TX3) (N := 2) hx hb hts kin_3 tyX3 tyX3_ok nmX3 hown hK hP hD hS 1 rfl rfl 0 (by decide) (hts _ (kcm kwm_61)) (fun _ h9 => h9) rfl (by decide +kernel) rfl rfl (Nat.le_of_ble_eq_true rfl) dX3_readClock_65 (fun H locs hP hD hS => ?_)
        have hP : va_P (dC, dI) kcl [(hp, .inl (cP, 242, .inl g)), (h, .inr (3, [.int (v_3.2.1 + 1), .int ah])), (ar, .inr (0, [.ref ab, .int (nI n)])), (ab, .inl (cB, 242, .inl f)), (hm, .inr (2, [.int y, .int mo, .int d, .int v_3.2.2.1, .int v_3.2.2.2.1, .int v_3.2.2.2.2, .ref hp, .int (nI k)]))] H := hP
        have hD : va_D A [(hp, .inl (cP, 242, .inl g)), (h, .inr (3, [.int (v_3.2.1 + 1), .int ah])), (ar, .inr (0, [.ref ab, .int (nI n)])), (ab, .inl (cB, 242, .inl f)), (hm, .inr (2, [.int y, .int mo, .int d, .int v_3.2.2.1, .int v_3.2.2.2.1, .int v_3.2.2.2.2, .ref hp, .int (nI k)]))] := hD
        refine lv_aload_n hx hb dX3_readClock_68 rfl (lv_at hl 2 rfl) ?_
        refine lv_aload_n hx hb dX3_readClock_69 rfl (lv_at hl 3 rfl) ?_
        refine lv_iload hx hb dX3_readClock_70 (lv_at hl 1 rfl) ?_
        refine lv_aload_n hx hb dX3_readClock_72 rfl (lv_at hl 5 rfl) ?_
        obtain ⟨ht1, ht2⟩ := rByte_next c_46 (by decide) hn
        rw [ht1] at hP hD
        have hP : va_P (dC, dI) kcl [(hp, .inl (cP, 242, .inl g)), (h, .inr (3, [.int (nI (v_3.2.1 + 1).toNatClampNeg), .int ah])), (ar, .inr (0, [.ref ab, .int (nI n)])), (ab, .inl (cB, 242, .inl f)), (hm, .inr (2, [.int y, .int mo, .int d, .int v_3.2.2.1, .int v_3.2.2.2.1, .int v_3.2.2.2.2, .ref hp, .int (nI k)]))] H := hP
        have hD : va_D A [(hp, .inl (cP, 242, .inl g)), (h, .inr (3, [.int (nI (v_3.2.1 + 1).toNatClampNeg), .int ah])), (ar, .inr (0, [.ref ab, .int (nI n)])), (ab, .inl (cB, 242, .inl f)), (hm, .inr (2, [.int y, .int mo, .int d, .int v_3.2.2.1, .int v_3.2.2.2.1, .int v_3.2.2.2.2, .ref hp, .int (nI k)]))] := hD
        have hPc := hP.sub (ws' := [(h, .inr (3, [.int (nI (v_3.2.1 + 1).toNatClampNeg), .int ah])), (ar, .inr (0, [.ref ab, .int (nI n)])), (ab, .inl (cB, 242, .inl f)), (hm, .inr (2, [.int y, .int mo, .int d, .int v_3.2.2.1, .int v_3.2.2.2.1, .int v_3.2.2.2.2, .ref hp, .int (nI k)])), (hp, .inl (cP, 242, .inl g))]) [1, 2, 3, 4, 0] rfl
        have hDc := hD.sub (ws' := [(h, .inr (3, [.int (nI (v_3.2.1 + 1).toNatClampNeg), .int ah])), (ar, .inr (0, [.ref ab, .int (nI n)])), (ab, .inl (cB, 242, .inl f)), (hm, .inr (2, [.int y, .int mo, .int d, .int v_3.2.2.1, .int v_3.2.2.2.1, .int v_3.2.2.2.2, .ref hp, .int (nI k)])), (hp, .inl (cP, 242, .inl g))]) [1, 2, 3, 4, 0] (by decide) rfl
        have hKc := hK.sub (tys' := [(cB, .byte), (cP, .byte)]) [0, 1] rfl
        have hFc := va_free (wc := [(h, .inr (3, [.int (nI (v_3.2.1 + 1).toNatClampNeg), .int ah])), (ar, .inr (0, [.ref ab, .int (nI n)])), (ab, .inl (cB, 242, .inl f)), (hm, .inr (2, [.int y, .int mo, .int d, .int v_3.2.2.1, .int v_3.2.2.2.1, .int v_3.2.2.2.2, .ref hp, .int (nI k)])), (hp, .inl (cP, 242, .inl g))]) hD hS hA [1, 2, 3, 4, 0] rfl
        refine kc_calli (val := bI (decide (¬ nI (ptL f n (n - (v_3.2.1 + 1).toNatClampNeg) (v_3.2.1 + 1).toNatClampNeg g k).1 ≤ nI (v_3.2.1 + 1).toNatClampNeg))) (wr := []) (w1 := [(h, .inr (3, [.int (nI (ptL f n (n - (v_3.2.1 + 1).toNatClampNeg) (v_3.2.1 + 1).toNatClampNeg g k).1), .int ah])), (ar, .inr (0, [.ref ab, .int (nI n)])), (ab, .inl (cB, 242, .inl f)), (hm, .inr (2, [.int y, .int mo, .int d, .int v_3.2.2.1, .int (spread v_3.1 v_3.2.2.2.1 v_3.2.2.2.2 (ptL f n (n - (v_3.2.1 + 1).toNatClampNeg) (v_3.2.1 + 1).toNatClampNeg g k).2.1 (ptL f n (n - (v_3.2.1 + 1).toNatClampNeg) (v_3.2.1 + 1).toNatClampNeg g k).2.2).1, .int (spread v_3.1 v_3.2.2.2.1 v_3.2.2.2.2 (ptL f n (n - (v_3.2.1 + 1).toNatClampNeg) (v_3.2.1 + 1).toNatClampNeg g k).2.1 (ptL f n (n - (v_3.2.1 + 1).toNatClampNeg) (v_3.2.1 + 1).toNatClampNeg g k).2.2).2.1, .ref hp, .int (nI (spread v_3.1 v_3.2.2.2.1 v_3.2.2.2.2 (ptL f n (n - (v_3.2.1 + 1).toNatClampNeg) (v_3.2.1 + 1).toNatClampNeg g k).2.1 (ptL f n (n - (v_3.2.1 + 1).toNatClampNeg) (v_3.2.1 + 1).toNatClampNeg g k).2.2).2.2.2)])), (hp, .inl (cP, 242, .inl (spread v_3.1 v_3.2.2.2.1 v_3.2.2.2.2 (ptL f n (n - (v_3.2.1 + 1).toNatClampNeg) (v_3.2.1 + 1).toNatClampNeg g k).2.1 (ptL f n (n - (v_3.2.1 + 1).toNatClampNeg) (v_3.2.1 + 1).toNatClampNeg g k).2.2).2.2.1))]) (va_runV (As := [.ref ar, .int v_3.1, .ref hm]) (rest := []) ⟨hx, hb, hml, hown, hts⟩ (c_Rd_readPart l dC dI st H.size h ar ab cB f n ah (v_3.2.1 + 1).toNatClampNeg hm y mo d v_3.2.2.1 v_3.2.2.2.1 v_3.2.2.2.2 hp k cP g v_3.1 hn ht2 hk) (cwV 3 hts (kwV kwm_77 kwm_78 kwm_79 kwm_52 kwm_76) rfl rfl rfl (by decide +kernel) ⟨Nat.le_of_ble_eq_true rfl, Nat.le_of_ble_eq_true rfl⟩) ⟨kc_blind, va_recv hKc hPc (ci := 3) (q0 := 0) rfl rfl, kc_pre hG hS hFc hKc hPc hDc⟩ rfl rfl hl.1 rfl (lv_room (Nat.le_of_ble_eq_true rfl)) dX3_readClock_73 ⟨Nat.le_of_ble_eq_true rfl, Nat.le_of_ble_eq_true rfl⟩) hP hD hS hFc [1, 2, 3, 4, 0] [] rfl rfl (by decide) (by decide) (fun H locs hP hD hS => ?_)
        have hP : va_P (dC, dI) kcl [(h, .inr (3, [.int (nI (ptL f n (n - (v_3.2.1 + 1).toNatClampNeg) (v_3.2.1 + 1).toNatClampNeg g k).1), .int ah])), (ar, .inr (0, [.ref ab, .int (nI n)])), (ab, .inl (cB, 242, .inl f)), (hm, .inr (2, [.int y, .int mo, .int d, .int v_3.2.2.1, .int (spread v_3.1 v_3.2.2.2.1 v_3.2.2.2.2 (ptL f n (n - (v_3.2.1 + 1).toNatClampNeg) (v_3.2.1 + 1).toNatClampNeg g k).2.1 (ptL f n (n - (v_3.2.1 + 1).toNatClampNeg) (v_3.2.1 + 1).toNatClampNeg g k).2.2).1, .int (spread v_3.1 v_3.2.2.2.1 v_3.2.2.2.2 (ptL f n (n - (v_3.2.1 + 1).toNatClampNeg) (v_3.2.1 + 1).toNatClampNeg g k).2.1 (ptL f n (n - (v_3.2.1 + 1).toNatClampNeg) (v_3.2.1 + 1).toNatClampNeg g k).2.2).2.1, .ref hp, .int (nI (spread v_3.1 v_3.2.2.2.1 v_3.2.2.2.2 (ptL f n (n - (v_3.2.1 + 1).toNatClampNeg) (v_3.2.1 + 1).toNatClampNeg g k).2.1 (ptL f n (n - (v_3.2.1 + 1).toNatClampNeg) (v_3.2.1 + 1).toNatClampNeg g k).2.2).2.2.2)])), (hp, .inl (cP, 242, .inl (spread v_3.1 v_3.2.2.2.1 v_3.2.2.2.2 (ptL f n (n - (v_3.2.1 + 1).toNatClampNeg) (v_3.2.1 + 1).toNatClampNeg g k).2.1 (ptL f n (n - (v_3.2.1 + 1).toNatClampNeg) (v_3.2.1 + 1).toNatClampNeg g k).2.2).2.2.1))] H := hP
        have hD : va_D A [(h, .inr (3, [.int (nI (ptL f n (n - (v_3.2.1 + 1).toNatClampNeg) (v_3.2.1 + 1).toNatClampNeg g k).1), .int ah])), (ar, .inr (0, [.ref ab, .int (nI n)])), (ab, .inl (cB, 242, .inl f)), (hm, .inr (2, [.int y, .int mo, .int d, .int v_3.2.2.1, .int (spread v_3.1 v_3.2.2.2.1 v_3.2.2.2.2 (ptL f n (n - (v_3.2.1 + 1).toNatClampNeg) (v_3.2.1 + 1).toNatClampNeg g k).2.1 (ptL f n (n - (v_3.2.1 + 1).toNatClampNeg) (v_3.2.1 + 1).toNatClampNeg g k).2.2).1, .int (spread v_3.1 v_3.2.2.2.1 v_3.2.2.2.2 (ptL f n (n - (v_3.2.1 + 1).toNatClampNeg) (v_3.2.1 + 1).toNatClampNeg g k).2.1 (ptL f n (n - (v_3.2.1 + 1).toNatClampNeg) (v_3.2.1 + 1).toNatClampNeg g k).2.2).2.1, .ref hp, .int (nI (spread v_3.1 v_3.2.2.2.1 v_3.2.2.2.2 (ptL f n (n - (v_3.2.1 + 1).toNatClampNeg) (v_3.2.1 + 1).toNatClampNeg g k).2.1 (ptL f n (n - (v_3.2.1 + 1).toNatClampNeg) (v_3.2.1 + 1).toNatClampNeg g k).2.2).2.2.2)])), (hp, .inl (cP, 242, .inl (spread v_3.1 v_3.2.2.2.1 v_3.2.2.2.2 (ptL f n (n - (v_3.2.1 + 1).toNatClampNeg) (v_3.2.1 + 1).toNatClampNeg g k).2.1 (ptL f n (n - (v_3.2.1 + 1).toNatClampNeg) (v_3.2.1 + 1).toNatClampNeg g k).2.2).2.2.1))] := hD
        have hF9 : rdClock f n kind ta hh mi ss g k = ((decide (¬ nI (ptL f n (n - (v_3.2.1 + 1).toNatClampNeg) (v_3.2.1 + 1).toNatClampNeg g k).1 ≤ nI (v_3.2.1 + 1).toNatClampNeg)), nI (ptL f n (n - (v_3.2.1 + 1).toNatClampNeg) (v_3.2.1 + 1).toNatClampNeg g k).1, v_3.2.2.1, (spread v_3.1 v_3.2.2.2.1 v_3.2.2.2.2 (ptL f n (n - (v_3.2.1 + 1).toNatClampNeg) (v_3.2.1 + 1).toNatClampNeg g k).2.1 (ptL f n (n - (v_3.2.1 + 1).toNatClampNeg) (v_3.2.1 + 1).toNatClampNeg g k).2.2).1, (spread v_3.1 v_3.2.2.2.1 v_3.2.2.2.2 (ptL f n (n - (v_3.2.1 + 1).toNatClampNeg) (v_3.2.1 + 1).toNatClampNeg g k).2.1 (ptL f n (n - (v_3.2.1 + 1).toNatClampNeg) (v_3.2.1 + 1).toNatClampNeg g k).2.2).2.1, (spread v_3.1 v_3.2.2.2.1 v_3.2.2.2.2 (ptL f n (n - (v_3.2.1 + 1).toNatClampNeg) (v_3.2.1 + 1).toNatClampNeg g k).2.1 (ptL f n (n - (v_3.2.1 + 1).toNatClampNeg) (v_3.2.1 + 1).toNatClampNeg g k).2.2).2.2.1, (spread v_3.1 v_3.2.2.2.1 v_3.2.2.2.2 (ptL f n (n - (v_3.2.1 + 1).toNatClampNeg) (v_3.2.1 + 1).toNatClampNeg g k).2.1 (ptL f n (n - (v_3.2.1 + 1).toNatClampNeg) (v_3.2.1 + 1).toNatClampNeg g k).2.2).2.2.2) := by
          subst e_3
          first | (simp only [rdClock, if_neg c_11, if_neg c_17, if_pos c_46]; done) | rfl
        have hP9 : va_P (dC, dI) kcl [(h, .inr (3, [.int (rdClock f n kind ta hh mi ss g k).2.1, .int ah])), (ar, .inr (0, [.ref ab, .int (nI n)])), (ab, .inl (cB, 242, .inl f)), (hm, .inr (2, [.int y, .int mo, .int d, .int (rdClock f n kind ta hh mi ss g k).2.2.1, .int (rdClock f n kind ta hh mi ss g k).2.2.2.1, .int (rdClock f n kind ta hh mi ss g k).2.2.2.2.1, .ref hp, .int (nI (rdClock f n kind ta hh mi ss g k).2.2.2.2.2.2)])), (hp, .inl (cP, 242, .inl (rdClock f n kind ta hh mi ss g k).2.2.2.2.2.1))] H := by
          try rw [hF9]
          exact hP.sub [0, 1, 2, 3, 4] rfl
        have hD9 : va_D A [(h, .inr (3, [.int (rdClock f n kind ta hh mi ss g k).2.1, .int ah])), (ar, .inr (0, [.ref ab, .int (nI n)])), (ab, .inl (cB, 242, .inl f)), (hm, .inr (2, [.int y, .int mo, .int d, .int (rdClock f n kind ta hh mi ss g k).2.2.1, .int (rdClock f n kind ta hh mi ss g k).2.2.2.1, .int (rdClock f n kind ta hh mi ss g k).2.2.2.2.1, .ref hp, .int (nI (rdClock f n kind ta hh mi ss g k).2.2.2.2.2.2)])), (hp, .inl (cP, 242, .inl (rdClock f n kind ta hh mi ss g k).2.2.2.2.2.1))] := by
          try rw [hF9]
          exact hD.sub [0, 1, 2, 3, 4] (by decide) rfl
        have hv9 : bI (decide (¬ nI (ptL f n (n - (v_3.2.1 + 1).toNatClampNeg) (v_3.2.1 + 1).toNatClampNeg g k).1 ≤ nI (v_3.2.1 + 1).toNatClampNeg)) = bI (rdClock f n kind ta hh mi ss g k).1 := by
          try rw [hF9]
          try rfl
        exact kc_zret hx hb hr hlocks hv9 (bI_nar hv9) hP9 hD9 hS dX3_readClock_76
      · refine lv_iload hx hb dX3_readClock_49 (lv_at hl 0 rfl) ?_
        refine lv_bipush (v := 44) hx hb dX3_readClock_51 (by decide) ?_
        refine lv_icmp_eq (tgt := 58) hx hb dX3_readClock_53 (by decide) (fun c_53 => ?_) (fun c_53 => ?_)
        · refine lv_aload_n hx hb dX3_readClock_58 rfl (lv_at hl 2 rfl) ?_
          refine lv_dup hx hb dX3_readClock_59 rfl ?_
          refine va_get (D := (dC, dI)) (ci := 3) (v := .int v_3.2.1) (C := RX3) (T := TX3) (N := 2) hx hb hts kin_3 hown hK hP 1 rfl rfl 0 (by decide) (hts _ (kcm kwm_61)) (fun _ h9 => h9) rfl dX3_readClock_60 ?_
          refine lv_iconst (v := 1) hx hb dX3_readClock_63 (by decide) ?_
          refine lv_iadd hx hb dX3_readClock_64 ?_
          refine va_put (D := (dC, dI)) (ci := 3) (v := .int (v_3.2.1 + 1)) (ty := .int) (C := RX3) (T := TX3) (N := 2) hx hb hts kin_3 tyX3 tyX3_ok nmX3 hown hK hP hD hS 1 rfl rfl 0 (by decide) (hts _ (kcm kwm_61)) (fun _ h9 => h9) rfl (by decide +kernel) rfl rfl (Nat.le_of_ble_eq_true rfl) dX3_readClock_65 (fun H locs hP hD hS => ?_)
          have hP : va_P (dC, dI) kcl [(hp, .inl (cP, 242, .inl g)), (h, .inr (3, [.int (v_3.2.1 + 1), .int ah])), (ar, .inr (0, [.ref ab, .int (nI n)])), (ab, .inl (cB, 242, .inl f)), (hm, .inr (2, [.int y, .int mo, .int d, .int v_3.2.2.1, .int v_3.2.2.2.1, .int v_3.2.2.2.2, .ref hp, .int (nI k)]))] H := hP
          have hD : va_D A [(hp, .inl (cP, 242, .inl g)), (h, .inr (3, [.int (v_3.2.1 + 1), .int ah])), (ar, .inr (0, [.ref ab, .int (nI n)])), (ab, .inl (cB, 242, .inl f)), (hm, .inr (2, [.int y, .int mo, .int d, .int v_3.2.2.1, .int v_3.2.2.2.1, .int v_3.2.2.2.2, .ref hp, .int (nI k)]))] := hD
          refine lv_aload_n hx hb dX3_readClock_68 rfl (lv_at hl 2 rfl) ?_
          refine lv_aload_n hx hb dX3_readClock_69 rfl (lv_at hl 3 rfl) ?_
          refine lv_iload hx hb dX3_readClock_70 (lv_at hl 1 rfl) ?_
          refine lv_aload_n hx hb dX3_readClock_72 rfl (lv_at hl 5 rfl) ?_
          obtain ⟨ht1, ht2⟩ := rByte_next c_53 (by decide) hn
          rw [ht1] at hP hD
          have hP : va_P (dC, dI) kcl [(hp, .inl (cP, 242, .inl g)), (h, .inr (3, [.int (nI (v_3.2.1 + 1).toNatClampNeg), .int ah])), (ar, .inr (0, [.ref ab, .int (nI n)])), (ab, .inl (cB, 242, .inl f)), (hm, .inr (2, [.int y, .int mo, .int d, .int v_3.2.2.1, .int v_3.2.2.2.1, .int v_3.2.2.2.2, .ref hp, .int (nI k)]))] H := hP
          have hD : va_D A [(hp, .inl (cP, 242, .inl g)), (h, .inr (3, [.int (nI (v_3.2.1 + 1).toNatClampNeg), .int ah])), (ar, .inr (0, [.ref ab, .int (nI n)])), (ab, .inl (cB, 242, .inl f)), (hm, .inr (2, [.int y, .int mo, .int d, .int v_3.2.2.1, .int v_3.2.2.2.1, .int v_3.2.2.2.2, .ref hp, .int (nI k)]))] := hD
          have hPc := hP.sub (ws' := [(h, .inr (3, [.int (nI (v_3.2.1 + 1).toNatClampNeg), .int ah])), (ar, .inr (0, [.ref ab, .int (nI n)])), (ab, .inl (cB, 242, .inl f)), (hm, .inr (2, [.int y, .int mo, .int d, .int v_3.2.2.1, .int v_3.2.2.2.1, .int v_3.2.2.2.2, .ref hp, .int (nI k)])), (hp, .inl (cP, 242, .inl g))]) [1, 2, 3, 4, 0] rfl
          have hDc := hD.sub (ws' := [(h, .inr (3, [.int (nI (v_3.2.1 + 1).toNatClampNeg), .int ah])), (ar, .inr (0, [.ref ab, .int (nI n)])), (ab, .inl (cB, 242, .inl f)), (hm, .inr (2, [.int y, .int mo, .int d, .int v_3.2.2.1, .int v_3.2.2.2.1, .int v_3.2.2.2.2, .ref hp, .int (nI k)])), (hp, .inl (cP, 242, .inl g))]) [1, 2, 3, 4, 0] (by decide) rfl
          have hKc := hK.sub (tys' := [(cB, .byte), (cP, .byte)]) [0, 1] rfl
          have hFc := va_free (wc := [(h, .inr (3, [.int (nI (v_3.2.1 + 1).toNatClampNeg), .int ah])), (ar, .inr (0, [.ref ab, .int (nI n)])), (ab, .inl (cB, 242, .inl f)), (hm, .inr (2, [.int y, .int mo, .int d, .int v_3.2.2.1, .int v_3.2.2.2.1, .int v_3.2.2.2.2, .ref hp, .int (nI k)])), (hp, .inl (cP, 242, .inl g))]) hD hS hA [1, 2, 3, 4, 0] rfl
          refine kc_calli (val := bI (decide (¬ nI (ptL f n (n - (v_3.2.1 + 1).toNatClampNeg) (v_3.2.1 + 1).toNatClampNeg g k).1 ≤ nI (v_3.2.1 + 1).toNatClampNeg))) (wr := []) (w1 := [(h, .inr (3, [.int (nI (ptL f n (n - (v_3.2.1 + 1).toNatClampNeg) (v_3.2.1 + 1).toNatClampNeg g k).1), .int ah])), (ar, .inr (0, [.ref ab, .int (nI n)])), (ab, .inl (cB, 242, .inl f)), (hm, .inr (2, [.int y, .int mo, .int d, .int v_3.2.2.1, .int (spread v_3.1 v_3.2.2.2.1 v_3.2.2.2.2 (ptL f n (n - (v_3.2.1 + 1).toNatClampNeg) (v_3.2.1 + 1).toNatClampNeg g k).2.1 (ptL f n (n - (v_3.2.1 + 1).toNatClampNeg) (v_3.2.1 + 1).toNatClampNeg g k).2.2).1, .int (spread v_3.1 v_3.2.2.2.1 v_3.2.2.2.2 (ptL f n (n - (v_3.2.1 + 1).toNatClampNeg) (v_3.2.1 + 1).toNatClampNeg g k).2.1 (ptL f n (n - (v_3.2.1 + 1).toNatClampNeg) (v_3.2.1 + 1).toNatClampNeg g k).2.2).2.1, .ref hp, .int (nI (spread v_3.1 v_3.2.2.2.1 v_3.2.2.2.2 (ptL f n (n - (v_3.2.1 + 1).toNatClampNeg) (v_3.2.1 + 1).toNatClampNeg g k).2.1 (ptL f n (n - (v_3.2.1 + 1).toNatClampNeg) (v_3.2.1 + 1).toNatClampNeg g k).2.2).2.2.2)])), (hp, .inl (cP, 242, .inl (spread v_3.1 v_3.2.2.2.1 v_3.2.2.2.2 (ptL f n (n - (v_3.2.1 + 1).toNatClampNeg) (v_3.2.1 + 1).toNatClampNeg g k).2.1 (ptL f n (n - (v_3.2.1 + 1).toNatClampNeg) (v_3.2.1 + 1).toNatClampNeg g k).2.2).2.2.1))]) (va_runV (As := [.ref ar, .int v_3.1, .ref hm]) (rest := []) ⟨hx, hb, hml, hown, hts⟩ (c_Rd_readPart l dC dI st H.size h ar ab cB f n ah (v_3.2.1 + 1).toNatClampNeg hm y mo d v_3.2.2.1 v_3.2.2.2.1 v_3.2.2.2.2 hp k cP g v_3.1 hn ht2 hk) (cwV 3 hts (kwV kwm_77 kwm_78 kwm_79 kwm_52 kwm_76) rfl rfl rfl (by decide +kernel) ⟨Nat.le_of_ble_eq_true rfl, Nat.le_of_ble_eq_true rfl⟩) ⟨kc_blind, va_recv hKc hPc (ci := 3) (q0 := 0) rfl rfl, kc_pre hG hS hFc hKc hPc hDc⟩ rfl rfl hl.1 rfl (lv_room (Nat.le_of_ble_eq_true rfl)) dX3_readClock_73 ⟨Nat.le_of_ble_eq_true rfl, Nat.le_of_ble_eq_true rfl⟩) hP hD hS hFc [1, 2, 3, 4, 0] [] rfl rfl (by decide) (by decide) (fun H locs hP hD hS => ?_)
          have hP : va_P (dC, dI) kcl [(h, .inr (3, [.int (nI (ptL f n (n - (v_3.2.1 + 1).toNatClampNeg) (v_3.2.1 + 1).toNatClampNeg g k).1), .int ah])), (ar, .inr (0, [.ref ab, .int (nI n)])), (ab, .inl (cB, 242, .inl f)), (hm, .inr (2, [.int y, .int mo, .int d, .int v_3.2.2.1, .int (spread v_3.1 v_3.2.2.2.1 v_3.2.2.2.2 (ptL f n (n - (v_3.2.1 + 1).toNatClampNeg) (v_3.2.1 + 1).toNatClampNeg g k).2.1 (ptL f n (n - (v_3.2.1 + 1).toNatClampNeg) (v_3.2.1 + 1).toNatClampNeg g k).2.2).1, .int (spread v_3.1 v_3.2.2.2.1 v_3.2.2.2.2 (ptL f n (n - (v_3.2.1 + 1).toNatClampNeg) (v_3.2.1 + 1).toNatClampNeg g k).2.1 (ptL f n (n - (v_3.2.1 + 1).toNatClampNeg) (v_3.2.1 + 1).toNatClampNeg g k).2.2).2.1, .ref hp, .int (nI (spread v_3.1 v_3.2.2.2.1 v_3.2.2.2.2 (ptL f n (n - (v_3.2.1 + 1).toNatClampNeg) (v_3.2.1 + 1).toNatClampNeg g k).2.1 (ptL f n (n - (v_3.2.1 + 1).toNatClampNeg) (v_3.2.1 + 1).toNatClampNeg g k).2.2).2.2.2)])), (hp, .inl (cP, 242, .inl (spread v_3.1 v_3.2.2.2.1 v_3.2.2.2.2 (ptL f n (n - (v_3.2.1 + 1).toNatClampNeg) (v_3.2.1 + 1).toNatClampNeg g k).2.1 (ptL f n (n - (v_3.2.1 + 1).toNatClampNeg) (v_3.2.1 + 1).toNatClampNeg g k).2.2).2.2.1))] H := hP
          have hD : va_D A [(h, .inr (3, [.int (nI (ptL f n (n - (v_3.2.1 + 1).toNatClampNeg) (v_3.2.1 + 1).toNatClampNeg g k).1), .int ah])), (ar, .inr (0, [.ref ab, .int (nI n)])), (ab, .inl (cB, 242, .inl f)), (hm, .inr (2, [.int y, .int mo, .int d, .int v_3.2.2.1, .int (spread v_3.1 v_3.2.2.2.1 v_3.2.2.2.2 (ptL f n (n - (v_3.2.1 + 1).toNatClampNeg) (v_3.2.1 + 1).toNatClampNeg g k).2.1 (ptL f n (n - (v_3.2.1 + 1).toNatClampNeg) (v_3.2.1 + 1).toNatClampNeg g k).2.2).1, .int (spread v_3.1 v_3.2.2.2.1 v_3.2.2.2.2 (ptL f n (n - (v_3.2.1 + 1).toNatClampNeg) (v_3.2.1 + 1).toNatClampNeg g k).2.1 (ptL f n (n - (v_3.2.1 + 1).toNatClampNeg) (v_3.2.1 + 1).toNatClampNeg g k).2.2).2.1, .ref hp, .int (nI (spread v_3.1 v_3.2.2.2.1 v_3.2.2.2.2 (ptL f n (n - (v_3.2.1 + 1).toNatClampNeg) (v_3.2.1 + 1).toNatClampNeg g k).2.1 (ptL f n (n - (v_3.2.1 + 1).toNatClampNeg) (v_3.2.1 + 1).toNatClampNeg g k).2.2).2.2.2)])), (hp, .inl (cP, 242, .inl (spread v_3.1 v_3.2.2.2.1 v_3.2.2.2.2 (ptL f n (n - (v_3.2.1 + 1).toNatClampNeg) (v_3.2.1 + 1).toNatClampNeg g k).2.1 (ptL f n (n - (v_3.2.1 + 1).toNatClampNeg) (v_3.2.1 + 1).toNatClampNeg g k).2.2).2.2.1))] := hD
          have hF9 : rdClock f n kind ta hh mi ss g k = ((decide (¬ nI (ptL f n (n - (v_3.2.1 + 1).toNatClampNeg) (v_3.2.1 + 1).toNatClampNeg g k).1 ≤ nI (v_3.2.1 + 1).toNatClampNeg)), nI (ptL f n (n - (v_3.2.1 + 1).toNatClampNeg) (v_3.2.1 + 1).toNatClampNeg g k).1, v_3.2.2.1, (spread v_3.1 v_3.2.2.2.1 v_3.2.2.2.2 (ptL f n (n - (v_3.2.1 + 1).toNatClampNeg) (v_3.2.1 + 1).toNatClampNeg g k).2.1 (ptL f n (n - (v_3.2.1 + 1).toNatClampNeg) (v_3.2.1 + 1).toNatClampNeg g k).2.2).1, (spread v_3.1 v_3.2.2.2.1 v_3.2.2.2.2 (ptL f n (n - (v_3.2.1 + 1).toNatClampNeg) (v_3.2.1 + 1).toNatClampNeg g k).2.1 (ptL f n (n - (v_3.2.1 + 1).toNatClampNeg) (v_3.2.1 + 1).toNatClampNeg g k).2.2).2.1, (spread v_3.1 v_3.2.2.2.1 v_3.2.2.2.2 (ptL f n (n - (v_3.2.1 + 1).toNatClampNeg) (v_3.2.1 + 1).toNatClampNeg g k).2.1 (ptL f n (n - (v_3.2.1 + 1).toNatClampNeg) (v_3.2.1 + 1).toNatClampNeg g k).2.2).2.2.1, (spread v_3.1 v_3.2.2.2.1 v_3.2.2.2.2 (ptL f n (n - (v_3.2.1 + 1).toNatClampNeg) (v_3.2.1 + 1).toNatClampNeg g k).2.1 (ptL f n (n - (v_3.2.1 + 1).toNatClampNeg) (v_3.2.1 + 1).toNatClampNeg g k).2.2).2.2.2) := by
            subst e_3
            first | (simp only [rdClock, if_neg c_11, if_neg c_17, if_neg c_46, if_pos c_53]; done) | rfl
          have hP9 : va_P (dC, dI) kcl [(h, .inr (3, [.int (rdClock f n kind ta hh mi ss g k).2.1, .int ah])), (ar, .inr (0, [.ref ab, .int (nI n)])), (ab, .inl (cB, 242, .inl f)), (hm, .inr (2, [.int y, .int mo, .int d, .int (rdClock f n kind ta hh mi ss g k).2.2.1, .int (rdClock f n kind ta hh mi ss g k).2.2.2.1, .int (rdClock f n kind ta hh mi ss g k).2.2.2.2.1, .ref hp, .int (nI (rdClock f n kind ta hh mi ss g k).2.2.2.2.2.2)])), (hp, .inl (cP, 242, .inl (rdClock f n kind ta hh mi ss g k).2.2.2.2.2.1))] H := by
            try rw [hF9]
            exact hP.sub [0, 1, 2, 3, 4] rfl
          have hD9 : va_D A [(h, .inr (3, [.int (rdClock f n kind ta hh mi ss g k).2.1, .int ah])), (ar, .inr (0, [.ref ab, .int (nI n)])), (ab, .inl (cB, 242, .inl f)), (hm, .inr (2, [.int y, .int mo, .int d, .int (rdClock f n kind ta hh mi ss g k).2.2.1, .int (rdClock f n kind ta hh mi ss g k).2.2.2.1, .int (rdClock f n kind ta hh mi ss g k).2.2.2.2.1, .ref hp, .int (nI (rdClock f n kind ta hh mi ss g k).2.2.2.2.2.2)])), (hp, .inl (cP, 242, .inl (rdClock f n kind ta hh mi ss g k).2.2.2.2.2.1))] := by
            try rw [hF9]
            exact hD.sub [0, 1, 2, 3, 4] (by decide) rfl
          have hv9 : bI (decide (¬ nI (ptL f n (n - (v_3.2.1 + 1).toNatClampNeg) (v_3.2.1 + 1).toNatClampNeg g k).1 ≤ nI (v_3.2.1 + 1).toNatClampNeg)) = bI (rdClock f n kind ta hh mi ss g k).1 := by
            try rw [hF9]
            try rfl
          exact kc_zret hx hb hr hlocks hv9 (bI_nar hv9) hP9 hD9 hS dX3_readClock_76
        · refine lv_iconst (v := 1) hx hb dX3_readClock_56 (by decide) ?_
          have hF9 : rdClock f n kind ta hh mi ss g k = (true, v_3.2.1, v_3.2.2.1, v_3.2.2.2.1, v_3.2.2.2.2, g, k) := by
            subst e_3
            first | (simp only [rdClock, if_neg c_11, if_neg c_17, if_neg c_46, if_neg c_53]; done) | rfl
          have hP9 : va_P (dC, dI) kcl [(h, .inr (3, [.int (rdClock f n kind ta hh mi ss g k).2.1, .int ah])), (ar, .inr (0, [.ref ab, .int (nI n)])), (ab, .inl (cB, 242, .inl f)), (hm, .inr (2, [.int y, .int mo, .int d, .int (rdClock f n kind ta hh mi ss g k).2.2.1, .int (rdClock f n kind ta hh mi ss g k).2.2.2.1, .int (rdClock f n kind ta hh mi ss g k).2.2.2.2.1, .ref hp, .int (nI (rdClock f n kind ta hh mi ss g k).2.2.2.2.2.2)])), (hp, .inl (cP, 242, .inl (rdClock f n kind ta hh mi ss g k).2.2.2.2.2.1))] H := by
            try rw [hF9]
            exact hP.sub [1, 2, 3, 4, 0] rfl
          have hD9 : va_D A [(h, .inr (3, [.int (rdClock f n kind ta hh mi ss g k).2.1, .int ah])), (ar, .inr (0, [.ref ab, .int (nI n)])), (ab, .inl (cB, 242, .inl f)), (hm, .inr (2, [.int y, .int mo, .int d, .int (rdClock f n kind ta hh mi ss g k).2.2.1, .int (rdClock f n kind ta hh mi ss g k).2.2.2.1, .int (rdClock f n kind ta hh mi ss g k).2.2.2.2.1, .ref hp, .int (nI (rdClock f n kind ta hh mi ss g k).2.2.2.2.2.2)])), (hp, .inl (cP, 242, .inl (rdClock f n kind ta hh mi ss g k).2.2.2.2.2.1))] := by
            try rw [hF9]
            exact hD.sub [1, 2, 3, 4, 0] (by decide) rfl
          have hv9 : (1 : Int32) = bI (rdClock f n kind ta hh mi ss g k).1 := by
            try rw [hF9]
            try rfl
          exact kc_zret hx hb hr hlocks hv9 (bI_nar hv9) hP9 hD9 hS dX3_readClock_57
    · refine lv_iload hx hb dX3_readClock_20 (lv_at hl 0 rfl) ?_
      refine lv_iconst (v := 2) hx hb dX3_readClock_22 (by decide) ?_
      refine lv_icmp_lt (tgt := 30) hx hb dX3_readClock_23 (by decide) (fun c_23 => ?_) (fun c_23 => ?_)
      · refine lv_iconst (v := 0) hx hb dX3_readClock_30 (by decide) ?_
        have hF9 : rdClock f n kind ta hh mi ss g k = (false, v_3.2.1, v_3.2.2.1, v_3.2.2.2.1, v_3.2.2.2.2, g, k) := by
          subst e_3
          first | (simp only [rdClock, if_neg c_11, if_pos c_17, if_pos c_23]; done) | rfl
        have hP9 : va_P (dC, dI) kcl [(h, .inr (3, [.int (rdClock f n kind ta hh mi ss g k).2.1, .int ah])), (ar, .inr (0, [.ref ab, .int (nI n)])), (ab, .inl (cB, 242, .inl f)), (hm, .inr (2, [.int y, .int mo, .int d, .int (rdClock f n kind ta hh mi ss g k).2.2.1, .int (rdClock f n kind ta hh mi ss g k).2.2.2.1, .int (rdClock f n kind ta hh mi ss g k).2.2.2.2.1, .ref hp, .int (nI (rdClock f n kind ta hh mi ss g k).2.2.2.2.2.2)])), (hp, .inl (cP, 242, .inl (rdClock f n kind ta hh mi ss g k).2.2.2.2.2.1))] H := by
          try rw [hF9]
          exact hP.sub [1, 2, 3, 4, 0] rfl
        have hD9 : va_D A [(h, .inr (3, [.int (rdClock f n kind ta hh mi ss g k).2.1, .int ah])), (ar, .inr (0, [.ref ab, .int (nI n)])), (ab, .inl (cB, 242, .inl f)), (hm, .inr (2, [.int y, .int mo, .int d, .int (rdClock f n kind ta hh mi ss g k).2.2.1, .int (rdClock f n kind ta hh mi ss g k).2.2.2.1, .int (rdClock f n kind ta hh mi ss g k).2.2.2.2.1, .ref hp, .int (nI (rdClock f n kind ta hh mi ss g k).2.2.2.2.2.2)])), (hp, .inl (cP, 242, .inl (rdClock f n kind ta hh mi ss g k).2.2.2.2.2.1))] := by
          try rw [hF9]
          exact hD.sub [1, 2, 3, 4, 0] (by decide) rfl
        have hv9 : (0 : Int32) = bI (rdClock f n kind ta hh mi ss g k).1 := by
          try rw [hF9]
          try rfl
        exact kc_zret hx hb hr hlocks hv9 (bI_nar hv9) hP9 hD9 hS dX3_readClock_31
      · refine lv_iconst (v := 1) hx hb dX3_readClock_26 (by decide) ?_
        refine lv_goto (tgt := 31) hx hb dX3_readClock_27 (by decide) ?_
        have hF9 : rdClock f n kind ta hh mi ss g k = (true, v_3.2.1, v_3.2.2.1, v_3.2.2.2.1, v_3.2.2.2.2, g, k) := by
          subst e_3
          first | (simp only [rdClock, if_neg c_11, if_pos c_17, if_neg c_23]; done) | rfl
        have hP9 : va_P (dC, dI) kcl [(h, .inr (3, [.int (rdClock f n kind ta hh mi ss g k).2.1, .int ah])), (ar, .inr (0, [.ref ab, .int (nI n)])), (ab, .inl (cB, 242, .inl f)), (hm, .inr (2, [.int y, .int mo, .int d, .int (rdClock f n kind ta hh mi ss g k).2.2.1, .int (rdClock f n kind ta hh mi ss g k).2.2.2.1, .int (rdClock f n kind ta hh mi ss g k).2.2.2.2.1, .ref hp, .int (nI (rdClock f n kind ta hh mi ss g k).2.2.2.2.2.2)])), (hp, .inl (cP, 242, .inl (rdClock f n kind ta hh mi ss g k).2.2.2.2.2.1))] H := by
          try rw [hF9]
          exact hP.sub [1, 2, 3, 4, 0] rfl
        have hD9 : va_D A [(h, .inr (3, [.int (rdClock f n kind ta hh mi ss g k).2.1, .int ah])), (ar, .inr (0, [.ref ab, .int (nI n)])), (ab, .inl (cB, 242, .inl f)), (hm, .inr (2, [.int y, .int mo, .int d, .int (rdClock f n kind ta hh mi ss g k).2.2.1, .int (rdClock f n kind ta hh mi ss g k).2.2.2.1, .int (rdClock f n kind ta hh mi ss g k).2.2.2.2.1, .ref hp, .int (nI (rdClock f n kind ta hh mi ss g k).2.2.2.2.2.2)])), (hp, .inl (cP, 242, .inl (rdClock f n kind ta hh mi ss g k).2.2.2.2.2.1))] := by
          try rw [hF9]
          exact hD.sub [1, 2, 3, 4, 0] (by decide) rfl
        have hv9 : (1 : Int32) = bI (rdClock f n kind ta hh mi ss g k).1 := by
          try rw [hF9]
          try rfl
        exact kc_zret hx hb hr hlocks hv9 (bI_nar hv9) hP9 hD9 hS dX3_readClock_31
  · refine lv_iconst (v := 0) hx hb dX3_readClock_14 (by decide) ?_
    have hF9 : rdClock f n kind ta hh mi ss g k = (false, v_3.2.1, v_3.2.2.1, v_3.2.2.2.1, v_3.2.2.2.2, g, k) := by
      subst e_3
      first | (simp only [rdClock, if_pos c_11]; done) | rfl
    have hP9 : va_P (dC, dI) kcl [(h, .inr (3, [.int (rdClock f n kind ta hh mi ss g k).2.1, .int ah])), (ar, .inr (0, [.ref ab, .int (nI n)])), (ab, .inl (cB, 242, .inl f)), (hm, .inr (2, [.int y, .int mo, .int d, .int (rdClock f n kind ta hh mi ss g k).2.2.1, .int (rdClock f n kind ta hh mi ss g k).2.2.2.1, .int (rdClock f n kind ta hh mi ss g k).2.2.2.2.1, .ref hp, .int (nI (rdClock f n kind ta hh mi ss g k).2.2.2.2.2.2)])), (hp, .inl (cP, 242, .inl (rdClock f n kind ta hh mi ss g k).2.2.2.2.2.1))] H := by
      try rw [hF9]
      exact hP.sub [1, 2, 3, 4, 0] rfl
    have hD9 : va_D A [(h, .inr (3, [.int (rdClock f n kind ta hh mi ss g k).2.1, .int ah])), (ar, .inr (0, [.ref ab, .int (nI n)])), (ab, .inl (cB, 242, .inl f)), (hm, .inr (2, [.int y, .int mo, .int d, .int (rdClock f n kind ta hh mi ss g k).2.2.1, .int (rdClock f n kind ta hh mi ss g k).2.2.2.1, .int (rdClock f n kind ta hh mi ss g k).2.2.2.2.1, .ref hp, .int (nI (rdClock f n kind ta hh mi ss g k).2.2.2.2.2.2)])), (hp, .inl (cP, 242, .inl (rdClock f n kind ta hh mi ss g k).2.2.2.2.2.1))] := by
      try rw [hF9]
      exact hD.sub [1, 2, 3, 4, 0] (by decide) rfl
    have hv9 : (0 : Int32) = bI (rdClock f n kind ta hh mi ss g k).1 := by
      try rw [hF9]
      try rfl
    exact kc_zret hx hb hr hlocks hv9 (bI_nar hv9) hP9 hD9 hS dX3_readClock_15
