def kHas (z : Nat) (i : Int32) : Bool :=
  if i < 0 then
    false
  else
    if (nI z) ≤ i then
      false
    else
      true
set_option maxHeartbeats 4000000 in
set_option maxRecDepth 100000 in
theorem c_Kp_has (l : Launch) (dC : Nat → ClassId) (dI : Nat → Nat → Nat) (st sz : Nat) (h : Nat) (aw : Nat) (al : Nat) (ap : Nat) (ao : Nat) (z : Nat) (i : Int32)  : Met l yX1_has wsX1_has ({ frames := 0, cells := 0, slots := 0, locals := 0 }) (kc_Pc (dC, dI) kcl st sz [.ref h, .int i] [(h, .inr (1, [.ref aw, .ref al, .ref ap, .ref ao, .int (nI z)]))] []) (vp_Si (fun r => r = bI (kHas z i))) 0 0 (fun _ => False) := by
  refine kc_ofS (cc := cX1_has) (maxL := 2) (ret := (some .boolean)) (by decide) rfl (Nat.le_of_ble_eq_true rfl) ?_
  intro p e s m below meth c A ls Cx hA hG hK hP hD hS hl
  obtain ⟨hx, hb, hr, hml, hown, hts, hlocks, hnm⟩ := id Cx
  have hl : lv_has ls 2 [(0, .ref h), (1, .int i)] := hl
  refine lv_iload_n hx hb dX1_has_0 rfl (lv_at hl 1 rfl) ?_
  refine lv_if_lt (tgt := 16) hx hb dX1_has_1 (by decide) (fun c_1 => ?_) (fun c_1 => ?_)
  · refine lv_iconst (v := 0) hx hb dX1_has_16 (by decide) ?_
    have hF9 : kHas z i = false := by
      first | (simp only [kHas, if_pos c_1]; done) | rfl
    have hv9 : (0 : Int32) = bI (kHas z i) := by
      try rw [hF9]
      try rfl
    exact kc_Szret hx hb hr hlocks hv9 (bI_nar hv9) dX1_has_17
  · refine lv_iload_n hx hb dX1_has_4 rfl (lv_at hl 1 rfl) ?_
    refine lv_aload_n hx hb dX1_has_5 rfl (lv_at hl 0 rfl) ?_
    refine va_get (D := (dC, dI)) (ci := 1) (v := .int (nI z)) (C := RX1) (T := TX1) (N := 5) hx hb hts kin_1 hown hK hP 0 rfl rfl 4 (by decide) (hts _ (kcm kwm_103)) (fun _ h9 => h9) rfl dX1_has_6 ?_
    refine lv_icmp_ge (tgt := 16) hx hb dX1_has_9 (by decide) (fun c_9 => ?_) (fun c_9 => ?_)
    · refine lv_iconst (v := 0) hx hb dX1_has_16 (by decide) ?_
      have hF9 : kHas z i = false := by
        first | (simp only [kHas, if_neg c_1, if_pos c_9]; done) | rfl
      have hv9 : (0 : Int32) = bI (kHas z i) := by
        try rw [hF9]
        try rfl
      exact kc_Szret hx hb hr hlocks hv9 (bI_nar hv9) dX1_has_17
    · refine lv_iconst (v := 1) hx hb dX1_has_12 (by decide) ?_
      refine lv_goto (tgt := 17) hx hb dX1_has_13 (by decide) ?_
      have hF9 : kHas z i = true := by
        first | (simp only [kHas, if_neg c_1, if_neg c_9]; done) | rfl
      have hv9 : (1 : Int32) = bI (kHas z i) := by
        try rw [hF9]
        try rfl
      exact kc_Szret hx hb hr hlocks hv9 (bI_nar hv9) dX1_has_17
set_option maxHeartbeats 4000000 in
set_option maxRecDepth 100000 in
theorem lp_bef {p : Program} {l : Launch} {e : Env} {s : State} {m : MethodId} {below : List Frame} {meth : Method} {c : Code} (dC : Nat → ClassId) (dI : Nat → Nat → Nat) (st : Nat) {A : Nat → Prop} (h : Nat) (aw : Nat) (al : Nat) (ap : Nat) (ao : Nat) (z : Nat) (cW : ClassId) (cL : ClassId) (cQ : ClassId) (WS : Nat → Int64) (LN : Nat → Int32) (PT : Nat → Int32) (a : Nat) (b : Nat) (la : Nat) (lb : Nat) (ha : a < 40) (hb2 : b < 40) (hla : LN a = nI la) (hlb : LN b = nI lb) (hla2 : la ≤ 242) (hlb2 : lb ≤ 242) (T : Bool) (Cx : kc_Cx yX1_isBefore cX1_isBefore (some .boolean) 7 wsX1_isBefore p s m ([.ref h, .int (nI a), .int (nI b)] : List Value).toArray meth c) (hA : ∀ q, s.heap.size ≤ q → A q) (hG : kg st A s) (hK : va_K (dC, dI) kcl [(cW, .long), (cL, .int), (cQ, .byte)] s) :
    ∀ (N : Nat) (i : Nat) (hi : i ≤ 242) (hN : min la lb ≤ i + N) (hT : bfL PT a b la lb N i = T) (ls : Array Slot), va_P (dC, dI) kcl [(h, .inr (1, [.ref aw, .ref al, .ref ap, .ref ao, .int (nI z)])), (aw, .inl (cW, 40, .inr (.inl WS))), (al, .inl (cL, 40, .inl LN)), (ap, .inl (cQ, 9680, .inl PT))] s.heap → va_D A [(h, .inr (1, [.ref aw, .ref al, .ref ap, .ref ao, .int (nI z)])), (aw, .inl (cW, 40, .inr (.inl WS))), (al, .inl (cL, 40, .inl LN)), (ap, .inl (cQ, 9680, .inl PT))] → va_S A s.heap s.heap [] → lv_has ls 7 [(0, .ref h), (1, .int (nI a)), (2, .int (nI b)), (3, .int (nI (min la lb))), (4, .int (nI i))] → W p l e ({ frames := 1, cells := 0, slots := 0, locals := 32 }) s m ([.ref h, .int (nI a), .int (nI b)] : List Value).toArray below meth c s.heap [] 0 0 (MQ below (vp_Si (fun r => r = bI T)) ([.ref h, .int (nI a), .int (nI b)] : List Value).toArray s 0 0 (fun _ => False)) (F0 m 57 ls []) := by
  obtain ⟨hx, hb, hr, hml, hown, hts, hlocks, hnm⟩ := Cx
  intro N
  induction N with
  | zero =>
    intro i hi hN hT ls hP hD hS hl
    refine lv_iload hx hb dX1_isBefore_57 (lv_at hl 4 rfl) ?_
    refine lv_iload_n hx hb dX1_isBefore_59 rfl (lv_at hl 3 rfl) ?_
    refine lv_icmp_ge (tgt := 119) hx hb dX1_isBefore_60 (by decide) (fun c_60 => ?_) (fun c_60 => ?_)
    · refine lv_aload_n hx hb dX1_isBefore_119 rfl (lv_at hl 0 rfl) ?_
      refine va_get (D := (dC, dI)) (ci := 1) (v := .ref al) (C := RX1) (T := TX1) (N := 5) hx hb hts kin_1 hown hK hP 0 rfl rfl 1 (by decide) (hts _ (kcm kwm_104)) (fun _ h9 => h9) rfl dX1_isBefore_120 ?_
      refine lv_iload_n hx hb dX1_isBefore_123 rfl (lv_at hl 1 rfl) ?_
      refine va_iald hx hb hK hP 2 1 rfl rfl (vp_in_nI ha (by decide)) dX1_isBefore_124 ?_
      rw [show (nI a).toNatClampNeg = a from nI_clamp (by omega)]
      rw [show LN a = nI la from hla]
      refine lv_aload_n hx hb dX1_isBefore_125 rfl (lv_at hl 0 rfl) ?_
      refine va_get (D := (dC, dI)) (ci := 1) (v := .ref al) (C := RX1) (T := TX1) (N := 5) hx hb hts kin_1 hown hK hP 0 rfl rfl 1 (by decide) (hts _ (kcm kwm_104)) (fun _ h9 => h9) rfl dX1_isBefore_126 ?_
      refine lv_iload_n hx hb dX1_isBefore_129 rfl (lv_at hl 2 rfl) ?_
      refine va_iald hx hb hK hP 2 1 rfl rfl (vp_in_nI hb2 (by decide)) dX1_isBefore_130 ?_
      rw [show (nI b).toNatClampNeg = b from nI_clamp (by omega)]
      rw [show LN b = nI lb from hlb]
      refine lv_icmp_ge (tgt := 138) hx hb dX1_isBefore_131 (by decide) (fun c_131 => ?_) (fun c_131 => ?_)
      · refine lv_iconst (v := 0) hx hb dX1_isBefore_138 (by decide) ?_
        have hT : decide (¬ nI lb ≤ nI la) = T := hT
        have hv9 : (0 : Int32) = bI T := by
          rw [← hT]; simp [bI, c_131]
          try rfl
        exact kc_Szret hx hb hr hlocks hv9 (bI_nar hv9) dX1_isBefore_139
      · refine lv_iconst (v := 1) hx hb dX1_isBefore_134 (by decide) ?_
        refine lv_goto (tgt := 139) hx hb dX1_isBefore_135 (by decide) ?_
        have hT : decide (¬ nI lb ≤ nI la) = T := hT
        have hv9 : (1 : Int32) = bI T := by
          rw [← hT]; simp [bI, c_131]
          try rfl
        exact kc_Szret hx hb hr hlocks hv9 (bI_nar hv9) dX1_isBefore_139
    · exact absurd (nI_le (show min la lb ≤ i by omega) (by omega)) c_60
  | succ N ih =>
    intro i hi hN hT ls hP hD hS hl
    refine lv_iload hx hb dX1_isBefore_57 (lv_at hl 4 rfl) ?_
    refine lv_iload_n hx hb dX1_isBefore_59 rfl (lv_at hl 3 rfl) ?_
    refine lv_icmp_ge (tgt := 119) hx hb dX1_isBefore_60 (by decide) (fun c_60 => ?_) (fun c_60 => ?_)
    · refine lv_aload_n hx hb dX1_isBefore_119 rfl (lv_at hl 0 rfl) ?_
      refine va_get (D := (dC, dI)) (ci := 1) (v := .ref al) (C := RX1) (T := TX1) (N := 5) hx hb hts kin_1 hown hK hP 0 rfl rfl 1 (by decide) (hts _ (kcm kwm_104)) (fun _ h9 => h9) rfl dX1_isBefore_120 ?_
      refine lv_iload_n hx hb dX1_isBefore_123 rfl (lv_at hl 1 rfl) ?_
      refine va_iald hx hb hK hP 2 1 rfl rfl (vp_in_nI ha (by decide)) dX1_isBefore_124 ?_
      rw [show (nI a).toNatClampNeg = a from nI_clamp (by omega)]
      rw [show LN a = nI la from hla]
      refine lv_aload_n hx hb dX1_isBefore_125 rfl (lv_at hl 0 rfl) ?_
      refine va_get (D := (dC, dI)) (ci := 1) (v := .ref al) (C := RX1) (T := TX1) (N := 5) hx hb hts kin_1 hown hK hP 0 rfl rfl 1 (by decide) (hts _ (kcm kwm_104)) (fun _ h9 => h9) rfl dX1_isBefore_126 ?_
      refine lv_iload_n hx hb dX1_isBefore_129 rfl (lv_at hl 2 rfl) ?_
      refine va_iald hx hb hK hP 2 1 rfl rfl (vp_in_nI hb2 (by decide)) dX1_isBefore_130 ?_
      rw [show (nI b).toNatClampNeg = b from nI_clamp (by omega)]
      rw [show LN b = nI lb from hlb]
      refine lv_icmp_ge (tgt := 138) hx hb dX1_isBefore_131 (by decide) (fun c_131 => ?_) (fun c_131 => ?_)
      · refine lv_iconst (v := 0) hx hb dX1_isBefore_138 (by decide) ?_
        have hT : decide (¬ nI lb ≤ nI la) = T := by rw [← hT]; exact (if_pos (show min la lb ≤ i by have := kb_ge c_60 (by omega); omega)).symm
        have hv9 : (0 : Int32) = bI T := by
          rw [← hT]; simp [bI, c_131]
          try rfl
        exact kc_Szret hx hb hr hlocks hv9 (bI_nar hv9) dX1_isBefore_139
      · refine lv_iconst (v := 1) hx hb dX1_isBefore_134 (by decide) ?_
        refine lv_goto (tgt := 139) hx hb dX1_isBefore_135 (by decide) ?_
        have hT : decide (¬ nI lb ≤ nI la) = T := by rw [← hT]; exact (if_pos (show min la lb ≤ i by have := kb_ge c_60 (by omega); omega)).symm
        have hv9 : (1 : Int32) = bI T := by
          rw [← hT]; simp [bI, c_131]
          try rfl
        exact kc_Szret hx hb hr hlocks hv9 (bI_nar hv9) dX1_isBefore_139
    · have hlt : i < min la lb := kb_lt c_60 (by omega)
      have hlt9 : ¬ min la lb ≤ i := by omega
      have hlt8 : i < 242 := by omega
      refine lv_aload_n hx hb dX1_isBefore_63 rfl (lv_at hl 0 rfl) ?_
      refine va_get (D := (dC, dI)) (ci := 1) (v := .ref ap) (C := RX1) (T := TX1) (N := 5) hx hb hts kin_1 hown hK hP 0 rfl rfl 2 (by decide) (hts _ (kcm kwm_105)) (fun _ h9 => h9) rfl dX1_isBefore_64 ?_
      refine lv_iload_n hx hb dX1_isBefore_67 rfl (lv_at hl 1 rfl) ?_
      refine lv_sipush (v := 242) hx hb dX1_isBefore_68 (by decide) ?_
      refine lv_imul hx hb dX1_isBefore_71 ?_
      rw [show (nI a) * 242 = nI (a * 242) from pk_mul a 242]
      refine lv_iload hx hb dX1_isBefore_72 (lv_at hl 4 rfl) ?_
      refine lv_iadd hx hb dX1_isBefore_74 ?_
      rw [show (nI (a * 242)) + (nI i) = nI (a * 242 + i) from nI_add _ _]
      refine va_bald hx hb hK hP 3 2 rfl rfl (vp_in_nI (show a * 242 + i < 9680 by omega) (by decide)) dX1_isBefore_75 ?_
      rw [show (nI (a * 242 + i)).toNatClampNeg = (a * 242 + i) from nI_clamp (by omega)]
      refine lv_istore (lv' := [(5, .int (PT (a * 242 + i))), (0, .ref h), (1, .int (nI a)), (2, .int (nI b)), (3, .int (nI (min la lb))), (4, .int (nI i))]) hx hb dX1_isBefore_76 hl (by decide) rfl (fun ls hl => ?_)
      refine lv_aload_n hx hb dX1_isBefore_78 rfl (lv_at hl 1 rfl) ?_
      refine va_get (D := (dC, dI)) (ci := 1) (v := .ref ap) (C := RX1) (T := TX1) (N := 5) hx hb hts kin_1 hown hK hP 0 rfl rfl 2 (by decide) (hts _ (kcm kwm_105)) (fun _ h9 => h9) rfl dX1_isBefore_79 ?_
      refine lv_iload_n hx hb dX1_isBefore_82 rfl (lv_at hl 3 rfl) ?_
      refine lv_sipush (v := 242) hx hb dX1_isBefore_83 (by decide) ?_
      refine lv_imul hx hb dX1_isBefore_86 ?_
      rw [show (nI b) * 242 = nI (b * 242) from pk_mul b 242]
      refine lv_iload hx hb dX1_isBefore_87 (lv_at hl 5 rfl) ?_
      refine lv_iadd hx hb dX1_isBefore_89 ?_
      rw [show (nI (b * 242)) + (nI i) = nI (b * 242 + i) from nI_add _ _]
      refine va_bald hx hb hK hP 3 2 rfl rfl (vp_in_nI (show b * 242 + i < 9680 by omega) (by decide)) dX1_isBefore_90 ?_
      rw [show (nI (b * 242 + i)).toNatClampNeg = (b * 242 + i) from nI_clamp (by omega)]
      refine lv_istore (lv' := [(6, .int (PT (b * 242 + i))), (5, .int (PT (a * 242 + i))), (0, .ref h), (1, .int (nI a)), (2, .int (nI b)), (3, .int (nI (min la lb))), (4, .int (nI i))]) hx hb dX1_isBefore_91 hl (by decide) rfl (fun ls hl => ?_)
      refine lv_iload hx hb dX1_isBefore_93 (lv_at hl 1 rfl) ?_
      refine lv_iload hx hb dX1_isBefore_95 (lv_at hl 0 rfl) ?_
      refine lv_icmp_eq (tgt := 113) hx hb dX1_isBefore_97 (by decide) (fun c_97 => ?_) (fun c_97 => ?_)
      · refine lv_iinc (v := (nI i) + 1) (lv' := [(4, .int ((nI i) + 1)), (6, .int (PT (b * 242 + i))), (5, .int (PT (a * 242 + i))), (0, .ref h), (1, .int (nI a)), (2, .int (nI b)), (3, .int (nI (min la lb)))]) hx hb dX1_isBefore_113 hl (k := 6) rfl (congrArg (fun z => (nI i) + z) (show Int32.ofInt (1) = (1 : Int32) by decide)) (by decide) rfl (fun ls hl => ?_)
        refine lv_goto (tgt := 57) hx hb dX1_isBefore_116 (by decide) ?_
        rw [nI_1] at hl
        exact ih (i + 1) (by omega) (by omega) (by rw [← hT]; exact ((if_neg hlt9).trans (if_pos c_97)).symm) ls hP hD hS (lv_sub hl [3, 4, 5, 6, 0] rfl)
      · refine lv_iload hx hb dX1_isBefore_100 (lv_at hl 1 rfl) ?_
        refine lv_iload hx hb dX1_isBefore_102 (lv_at hl 0 rfl) ?_
        refine lv_icmp_ge (tgt := 111) hx hb dX1_isBefore_104 (by decide) (fun c_104 => ?_) (fun c_104 => ?_)
        · refine lv_iconst (v := 0) hx hb dX1_isBefore_111 (by decide) ?_
          have hT : false = T := by rw [← hT]; exact ((if_neg hlt9).trans ((if_neg c_97).trans (if_pos c_104))).symm
          have hv9 : (0 : Int32) = bI T := by
            rw [← hT]; rfl
            try rfl
          exact kc_Szret hx hb hr hlocks hv9 (bI_nar hv9) dX1_isBefore_112
        · refine lv_iconst (v := 1) hx hb dX1_isBefore_107 (by decide) ?_
          refine lv_goto (tgt := 112) hx hb dX1_isBefore_108 (by decide) ?_
          have hT : true = T := by rw [← hT]; exact ((if_neg hlt9).trans ((if_neg c_97).trans (if_neg c_104))).symm
          have hv9 : (1 : Int32) = bI T := by
            rw [← hT]; rfl
            try rfl
          exact kc_Szret hx hb hr hlocks hv9 (bI_nar hv9) dX1_isBefore_112
set_option maxHeartbeats 4000000 in
set_option maxRecDepth 100000 in
theorem c_Kp_isBefore (l : Launch) (dC : Nat → ClassId) (dI : Nat → Nat → Nat) (st sz : Nat) (h : Nat) (aw : Nat) (al : Nat) (ap : Nat) (ao : Nat) (z : Nat) (cW : ClassId) (cL : ClassId) (cQ : ClassId) (WS : Nat → Int64) (LN : Nat → Int32) (PT : Nat → Int32) (a : Nat) (b : Nat) (la : Nat) (lb : Nat) (ha : a < 40) (hb2 : b < 40) (hla : LN a = nI la) (hlb : LN b = nI lb) (hla2 : la ≤ 242) (hlb2 : lb ≤ 242) : Met l yX1_isBefore wsX1_isBefore ({ frames := 1, cells := 0, slots := 0, locals := 32 }) (kc_Pc (dC, dI) kcl st sz [.ref h, .int (nI a), .int (nI b)] [(h, .inr (1, [.ref aw, .ref al, .ref ap, .ref ao, .int (nI z)])), (aw, .inl (cW, 40, .inr (.inl WS))), (al, .inl (cL, 40, .inl LN)), (ap, .inl (cQ, 9680, .inl PT))] [(cW, .long), (cL, .int), (cQ, .byte)]) (vp_Si (fun r => r = bI (befK WS PT a b la lb))) 0 0 (fun _ => False) := by
  refine kc_ofS (cc := cX1_isBefore) (maxL := 7) (ret := (some .boolean)) (by decide) rfl (Nat.le_of_ble_eq_true rfl) ?_
  intro p e s m below meth c A ls Cx hA hG hK hP hD hS hl
  obtain ⟨hx, hb, hr, hml, hown, hts, hlocks, hnm⟩ := id Cx
  have hl : lv_has ls 7 [(0, .ref h), (1, .int (nI a)), (2, .int (nI b))] := hl
  refine lv_aload_n hx hb dX1_isBefore_0 rfl (lv_at hl 0 rfl) ?_
  refine va_get (D := (dC, dI)) (ci := 1) (v := .ref aw) (C := RX1) (T := TX1) (N := 5) hx hb hts kin_1 hown hK hP 0 rfl rfl 0 (by decide) (hts _ (kcm kwm_106)) (fun _ h9 => h9) rfl dX1_isBefore_1 ?_
  refine lv_iload_n hx hb dX1_isBefore_4 rfl (lv_at hl 1 rfl) ?_
  refine va_lald hx hb hK hP 1 0 rfl rfl (vp_in_nI ha (by decide)) dX1_isBefore_5 ?_
  rw [show (nI a).toNatClampNeg = a from nI_clamp (by omega)]
  refine lv_aload_n hx hb dX1_isBefore_6 rfl (lv_at hl 0 rfl) ?_
  refine va_get (D := (dC, dI)) (ci := 1) (v := .ref aw) (C := RX1) (T := TX1) (N := 5) hx hb hts kin_1 hown hK hP 0 rfl rfl 0 (by decide) (hts _ (kcm kwm_106)) (fun _ h9 => h9) rfl dX1_isBefore_7 ?_
  refine lv_iload_n hx hb dX1_isBefore_10 rfl (lv_at hl 2 rfl) ?_
  refine va_lald hx hb hK hP 1 0 rfl rfl (vp_in_nI hb2 (by decide)) dX1_isBefore_11 ?_
  rw [show (nI b).toNatClampNeg = b from nI_clamp (by omega)]
  refine W.lcmp hx hb dX1_isBefore_12 ?_
  refine lv_if_eq (tgt := 38) hx hb dX1_isBefore_13 (by decide) (fun c_13 => ?_) (fun c_13 => ?_)
  · refine lv_aload_n hx hb dX1_isBefore_38 rfl (lv_at hl 0 rfl) ?_
    refine va_get (D := (dC, dI)) (ci := 1) (v := .ref al) (C := RX1) (T := TX1) (N := 5) hx hb hts kin_1 hown hK hP 0 rfl rfl 1 (by decide) (hts _ (kcm kwm_104)) (fun _ h9 => h9) rfl dX1_isBefore_39 ?_
    refine lv_iload_n hx hb dX1_isBefore_42 rfl (lv_at hl 1 rfl) ?_
    refine va_iald hx hb hK hP 2 1 rfl rfl (vp_in_nI ha (by decide)) dX1_isBefore_43 ?_
    rw [show (nI a).toNatClampNeg = a from nI_clamp (by omega)]
    rw [show LN a = nI la from hla]
    refine lv_aload_n hx hb dX1_isBefore_44 rfl (lv_at hl 0 rfl) ?_
    refine va_get (D := (dC, dI)) (ci := 1) (v := .ref al) (C := RX1) (T := TX1) (N := 5) hx hb hts kin_1 hown hK hP 0 rfl rfl 1 (by decide) (hts _ (kcm kwm_104)) (fun _ h9 => h9) rfl dX1_isBefore_45 ?_
    refine lv_iload_n hx hb dX1_isBefore_48 rfl (lv_at hl 2 rfl) ?_
    refine va_iald hx hb hK hP 2 1 rfl rfl (vp_in_nI hb2 (by decide)) dX1_isBefore_49 ?_
    rw [show (nI b).toNatClampNeg = b from nI_clamp (by omega)]
    rw [show LN b = nI lb from hlb]
    refine va_mmin hx hb (hml.trans hl.1.symm) hown (hts _ (kcm kwm_107)) (hts _ (kcm kwm_108)) (hts _ (kcm kwm_109)) (hts _ (kcm kwm_110)) (Nat.le_of_ble_eq_true rfl) (Nat.le_of_ble_eq_true rfl) (Nat.zero_le _) (Nat.zero_le _) dX1_isBefore_50 ?_
    refine lv_istore_n (lv' := [(3, .int (if (nI lb) < (nI la) then (nI lb) else (nI la))), (0, .ref h), (1, .int (nI a)), (2, .int (nI b))]) hx hb dX1_isBefore_53 rfl hl (by decide) rfl (fun ls hl => ?_)
    refine lv_iconst (v := 0) hx hb dX1_isBefore_54 (by decide) ?_
    refine lv_istore (lv' := [(4, .int 0), (3, .int (if (nI lb) < (nI la) then (nI lb) else (nI la))), (0, .ref h), (1, .int (nI a)), (2, .int (nI b))]) hx hb dX1_isBefore_55 hl (by decide) rfl (fun ls hl => ?_)
    have e9 : (if nI lb < nI la then nI lb else nI la) = nI (min la lb) := kb_min (by omega) (by omega)
    rw [e9] at hl
    have hv9 : befK WS PT a b la lb = bfL PT a b la lb (min la lb) 0 := if_pos c_13
    rw [hv9]
    exact lp_bef dC dI st h aw al ap ao z cW cL cQ WS LN PT a b la lb ha hb2 hla hlb hla2 hlb2 (bfL PT a b la lb (min la lb) 0) Cx hA hG hK (min la lb) 0 (by omega) (by omega) rfl ls hP hD hS (lv_sub hl [2, 3, 4, 1, 0] rfl)
  · refine lv_aload_n hx hb dX1_isBefore_16 rfl (lv_at hl 0 rfl) ?_
    refine va_get (D := (dC, dI)) (ci := 1) (v := .ref aw) (C := RX1) (T := TX1) (N := 5) hx hb hts kin_1 hown hK hP 0 rfl rfl 0 (by decide) (hts _ (kcm kwm_106)) (fun _ h9 => h9) rfl dX1_isBefore_17 ?_
    refine lv_iload_n hx hb dX1_isBefore_20 rfl (lv_at hl 1 rfl) ?_
    refine va_lald hx hb hK hP 1 0 rfl rfl (vp_in_nI ha (by decide)) dX1_isBefore_21 ?_
    rw [show (nI a).toNatClampNeg = a from nI_clamp (by omega)]
    refine lv_aload_n hx hb dX1_isBefore_22 rfl (lv_at hl 0 rfl) ?_
    refine va_get (D := (dC, dI)) (ci := 1) (v := .ref aw) (C := RX1) (T := TX1) (N := 5) hx hb hts kin_1 hown hK hP 0 rfl rfl 0 (by decide) (hts _ (kcm kwm_106)) (fun _ h9 => h9) rfl dX1_isBefore_23 ?_
    refine lv_iload_n hx hb dX1_isBefore_26 rfl (lv_at hl 2 rfl) ?_
    refine va_lald hx hb hK hP 1 0 rfl rfl (vp_in_nI hb2 (by decide)) dX1_isBefore_27 ?_
    rw [show (nI b).toNatClampNeg = b from nI_clamp (by omega)]
    refine W.lcmp hx hb dX1_isBefore_28 ?_
    refine lv_if_ge (tgt := 36) hx hb dX1_isBefore_29 (by decide) (fun c_29 => ?_) (fun c_29 => ?_)
    · refine lv_iconst (v := 0) hx hb dX1_isBefore_36 (by decide) ?_
      have hv9 : (0 : Int32) = bI (befK WS PT a b la lb) := by
        simp only [befK, if_neg c_13, if_pos c_29, bI_t, bI_f]
        try rfl
      exact kc_Szret hx hb hr hlocks hv9 (bI_nar hv9) dX1_isBefore_37
    · refine lv_iconst (v := 1) hx hb dX1_isBefore_32 (by decide) ?_
      refine lv_goto (tgt := 37) hx hb dX1_isBefore_33 (by decide) ?_
      have hv9 : (1 : Int32) = bI (befK WS PT a b la lb) := by
        simp only [befK, if_neg c_13, if_neg c_29, bI_t, bI_f]
        try rfl
      exact kc_Szret hx hb hr hlocks hv9 (bI_nar hv9) dX1_isBefore_37
