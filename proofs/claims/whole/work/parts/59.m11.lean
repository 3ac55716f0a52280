abbrev cX5_isBefore : ByteArray := prog_7_method_33_code
def yX5_isBefore : MethodName := ⟨RX5, "isBefore", "(II)Z"⟩
abbrev wsX5_isBefore : List Cond := .code yX5_isBefore cX5_isBefore 4 (some .boolean) :: kw

theorem dX5_isBefore_0 : decode cX5_isBefore 0 = .ok (.aload_n 0, 1) := by decide +kernel
theorem dX5_isBefore_1 : decode cX5_isBefore 1 = .ok (.getfield 19, 3) := by decide +kernel
theorem dX5_isBefore_4 : decode cX5_isBefore 4 = .ok (.iload_n 1, 1) := by decide +kernel
theorem dX5_isBefore_5 : decode cX5_isBefore 5 = .ok (.laload, 1) := by decide +kernel
theorem dX5_isBefore_6 : decode cX5_isBefore 6 = .ok (.aload_n 0, 1) := by decide +kernel
theorem dX5_isBefore_7 : decode cX5_isBefore 7 = .ok (.getfield 19, 3) := by decide +kernel
theorem dX5_isBefore_10 : decode cX5_isBefore 10 = .ok (.iload_n 2, 1) := by decide +kernel
theorem dX5_isBefore_11 : decode cX5_isBefore 11 = .ok (.laload, 1) := by decide +kernel
theorem dX5_isBefore_12 : decode cX5_isBefore 12 = .ok (.lcmp, 1) := by decide +kernel
theorem dX5_isBefore_13 : decode cX5_isBefore 13 = .ok (.ifCond .eq 25, 3) := by decide +kernel
theorem dX5_isBefore_16 : decode cX5_isBefore 16 = .ok (.aload_n 0, 1) := by decide +kernel
theorem dX5_isBefore_17 : decode cX5_isBefore 17 = .ok (.getfield 19, 3) := by decide +kernel
theorem dX5_isBefore_20 : decode cX5_isBefore 20 = .ok (.iload_n 1, 1) := by decide +kernel
theorem dX5_isBefore_21 : decode cX5_isBefore 21 = .ok (.laload, 1) := by decide +kernel
theorem dX5_isBefore_22 : decode cX5_isBefore 22 = .ok (.aload_n 0, 1) := by decide +kernel
theorem dX5_isBefore_23 : decode cX5_isBefore 23 = .ok (.getfield 19, 3) := by decide +kernel
theorem dX5_isBefore_26 : decode cX5_isBefore 26 = .ok (.iload_n 2, 1) := by decide +kernel
theorem dX5_isBefore_27 : decode cX5_isBefore 27 = .ok (.laload, 1) := by decide +kernel
theorem dX5_isBefore_28 : decode cX5_isBefore 28 = .ok (.lcmp, 1) := by decide +kernel
theorem dX5_isBefore_29 : decode cX5_isBefore 29 = .ok (.ifCond .ge 7, 3) := by decide +kernel
theorem dX5_isBefore_32 : decode cX5_isBefore 32 = .ok (.iconst 1, 1) := by decide +kernel
theorem dX5_isBefore_33 : decode cX5_isBefore 33 = .ok (.goto 4, 3) := by decide +kernel
theorem dX5_isBefore_36 : decode cX5_isBefore 36 = .ok (.iconst 0, 1) := by decide +kernel
theorem dX5_isBefore_37 : decode cX5_isBefore 37 = .ok (.ireturn, 1) := by decide +kernel
theorem dX5_isBefore_38 : decode cX5_isBefore 38 = .ok (.iconst 0, 1) := by decide +kernel
theorem dX5_isBefore_39 : decode cX5_isBefore 39 = .ok (.istore_n 3, 1) := by decide +kernel
theorem dX5_isBefore_40 : decode cX5_isBefore 40 = .ok (.iload_n 3, 1) := by decide +kernel
theorem dX5_isBefore_41 : decode cX5_isBefore 41 = .ok (.aload_n 0, 1) := by decide +kernel
theorem dX5_isBefore_42 : decode cX5_isBefore 42 = .ok (.getfield 23, 3) := by decide +kernel
theorem dX5_isBefore_45 : decode cX5_isBefore 45 = .ok (.iload_n 1, 1) := by decide +kernel
theorem dX5_isBefore_46 : decode cX5_isBefore 46 = .ok (.iaload, 1) := by decide +kernel
theorem dX5_isBefore_47 : decode cX5_isBefore 47 = .ok (.if_icmp .ge 46, 3) := by decide +kernel
theorem dX5_isBefore_50 : decode cX5_isBefore 50 = .ok (.iload_n 3, 1) := by decide +kernel
theorem dX5_isBefore_51 : decode cX5_isBefore 51 = .ok (.aload_n 0, 1) := by decide +kernel
theorem dX5_isBefore_52 : decode cX5_isBefore 52 = .ok (.getfield 23, 3) := by decide +kernel
theorem dX5_isBefore_55 : decode cX5_isBefore 55 = .ok (.iload_n 2, 1) := by decide +kernel
theorem dX5_isBefore_56 : decode cX5_isBefore 56 = .ok (.iaload, 1) := by decide +kernel
theorem dX5_isBefore_57 : decode cX5_isBefore 57 = .ok (.if_icmp .ge 36, 3) := by decide +kernel
theorem dX5_isBefore_60 : decode cX5_isBefore 60 = .ok (.aload_n 0, 1) := by decide +kernel
theorem dX5_isBefore_61 : decode cX5_isBefore 61 = .ok (.getfield 26, 3) := by decide +kernel
theorem dX5_isBefore_64 : decode cX5_isBefore 64 = .ok (.sipush 256, 3) := by decide +kernel
theorem dX5_isBefore_67 : decode cX5_isBefore 67 = .ok (.iload_n 1, 1) := by decide +kernel
theorem dX5_isBefore_68 : decode cX5_isBefore 68 = .ok (.imul, 1) := by decide +kernel
theorem dX5_isBefore_69 : decode cX5_isBefore 69 = .ok (.iload_n 3, 1) := by decide +kernel
theorem dX5_isBefore_70 : decode cX5_isBefore 70 = .ok (.iadd, 1) := by decide +kernel
theorem dX5_isBefore_71 : decode cX5_isBefore 71 = .ok (.iaload, 1) := by decide +kernel
theorem dX5_isBefore_72 : decode cX5_isBefore 72 = .ok (.aload_n 0, 1) := by decide +kernel
theorem dX5_isBefore_73 : decode cX5_isBefore 73 = .ok (.getfield 26, 3) := by decide +kernel
theorem dX5_isBefore_76 : decode cX5_isBefore 76 = .ok (.sipush 256, 3) := by decide +kernel
theorem dX5_isBefore_79 : decode cX5_isBefore 79 = .ok (.iload_n 2, 1) := by decide +kernel
theorem dX5_isBefore_80 : decode cX5_isBefore 80 = .ok (.imul, 1) := by decide +kernel
theorem dX5_isBefore_81 : decode cX5_isBefore 81 = .ok (.iload_n 3, 1) := by decide +kernel
theorem dX5_isBefore_82 : decode cX5_isBefore 82 = .ok (.iadd, 1) := by decide +kernel
theorem dX5_isBefore_83 : decode cX5_isBefore 83 = .ok (.iaload, 1) := by decide +kernel
theorem dX5_isBefore_84 : decode cX5_isBefore 84 = .ok (.if_icmp .ne 9, 3) := by decide +kernel
theorem dX5_isBefore_87 : decode cX5_isBefore 87 = .ok (.iinc 3 1, 3) := by decide +kernel
theorem dX5_isBefore_90 : decode cX5_isBefore 90 = .ok (.goto (-50), 3) := by decide +kernel
theorem dX5_isBefore_93 : decode cX5_isBefore 93 = .ok (.iload_n 3, 1) := by decide +kernel
theorem dX5_isBefore_94 : decode cX5_isBefore 94 = .ok (.aload_n 0, 1) := by decide +kernel
theorem dX5_isBefore_95 : decode cX5_isBefore 95 = .ok (.getfield 23, 3) := by decide +kernel
theorem dX5_isBefore_98 : decode cX5_isBefore 98 = .ok (.iload_n 1, 1) := by decide +kernel
theorem dX5_isBefore_99 : decode cX5_isBefore 99 = .ok (.iaload, 1) := by decide +kernel
theorem dX5_isBefore_100 : decode cX5_isBefore 100 = .ok (.if_icmp .ge 46, 3) := by decide +kernel
theorem dX5_isBefore_103 : decode cX5_isBefore 103 = .ok (.iload_n 3, 1) := by decide +kernel
theorem dX5_isBefore_104 : decode cX5_isBefore 104 = .ok (.aload_n 0, 1) := by decide +kernel
theorem dX5_isBefore_105 : decode cX5_isBefore 105 = .ok (.getfield 23, 3) := by decide +kernel
theorem dX5_isBefore_108 : decode cX5_isBefore 108 = .ok (.iload_n 2, 1) := by decide +kernel
theorem dX5_isBefore_109 : decode cX5_isBefore 109 = .ok (.iaload, 1) := by decide +kernel
theorem dX5_isBefore_110 : decode cX5_isBefore 110 = .ok (.if_icmp .ge 36, 3) := by decide +kernel
theorem dX5_isBefore_113 : decode cX5_isBefore 113 = .ok (.aload_n 0, 1) := by decide +kernel
theorem dX5_isBefore_114 : decode cX5_isBefore 114 = .ok (.getfield 26, 3) := by decide +kernel
theorem dX5_isBefore_117 : decode cX5_isBefore 117 = .ok (.sipush 256, 3) := by decide +kernel
theorem dX5_isBefore_120 : decode cX5_isBefore 120 = .ok (.iload_n 1, 1) := by decide +kernel
theorem dX5_isBefore_121 : decode cX5_isBefore 121 = .ok (.imul, 1) := by decide +kernel
theorem dX5_isBefore_122 : decode cX5_isBefore 122 = .ok (.iload_n 3, 1) := by decide +kernel
theorem dX5_isBefore_123 : decode cX5_isBefore 123 = .ok (.iadd, 1) := by decide +kernel
theorem dX5_isBefore_124 : decode cX5_isBefore 124 = .ok (.iaload, 1) := by decide +kernel
theorem dX5_isBefore_125 : decode cX5_isBefore 125 = .ok (.aload_n 0, 1) := by decide +kernel
theorem dX5_isBefore_126 : decode cX5_isBefore 126 = .ok (.getfield 26, 3) := by decide +kernel
theorem dX5_isBefore_129 : decode cX5_isBefore 129 = .ok (.sipush 256, 3) := by decide +kernel
theorem dX5_isBefore_132 : decode cX5_isBefore 132 = .ok (.iload_n 2, 1) := by decide +kernel
theorem dX5_isBefore_133 : decode cX5_isBefore 133 = .ok (.imul, 1) := by decide +kernel
theorem dX5_isBefore_134 : decode cX5_isBefore 134 = .ok (.iload_n 3, 1) := by decide +kernel
theorem dX5_isBefore_135 : decode cX5_isBefore 135 = .ok (.iadd, 1) := by decide +kernel
theorem dX5_isBefore_136 : decode cX5_isBefore 136 = .ok (.iaload, 1) := by decide +kernel
theorem dX5_isBefore_137 : decode cX5_isBefore 137 = .ok (.if_icmp .ge 7, 3) := by decide +kernel
theorem dX5_isBefore_140 : decode cX5_isBefore 140 = .ok (.iconst 1, 1) := by decide +kernel
theorem dX5_isBefore_141 : decode cX5_isBefore 141 = .ok (.goto 4, 3) := by decide +kernel
theorem dX5_isBefore_144 : decode cX5_isBefore 144 = .ok (.iconst 0, 1) := by decide +kernel
theorem dX5_isBefore_145 : decode cX5_isBefore 145 = .ok (.ireturn, 1) := by decide +kernel
theorem dX5_isBefore_146 : decode cX5_isBefore 146 = .ok (.aload_n 0, 1) := by decide +kernel
theorem dX5_isBefore_147 : decode cX5_isBefore 147 = .ok (.getfield 23, 3) := by decide +kernel
theorem dX5_isBefore_150 : decode cX5_isBefore 150 = .ok (.iload_n 1, 1) := by decide +kernel
theorem dX5_isBefore_151 : decode cX5_isBefore 151 = .ok (.iaload, 1) := by decide +kernel
theorem dX5_isBefore_152 : decode cX5_isBefore 152 = .ok (.aload_n 0, 1) := by decide +kernel
theorem dX5_isBefore_153 : decode cX5_isBefore 153 = .ok (.getfield 23, 3) := by decide +kernel
theorem dX5_isBefore_156 : decode cX5_isBefore 156 = .ok (.iload_n 2, 1) := by decide +kernel
theorem dX5_isBefore_157 : decode cX5_isBefore 157 = .ok (.iaload, 1) := by decide +kernel
theorem dX5_isBefore_158 : decode cX5_isBefore 158 = .ok (.if_icmp .eq 26, 3) := by decide +kernel
theorem dX5_isBefore_161 : decode cX5_isBefore 161 = .ok (.aload_n 0, 1) := by decide +kernel
theorem dX5_isBefore_162 : decode cX5_isBefore 162 = .ok (.getfield 23, 3) := by decide +kernel
theorem dX5_isBefore_165 : decode cX5_isBefore 165 = .ok (.iload_n 1, 1) := by decide +kernel
theorem dX5_isBefore_166 : decode cX5_isBefore 166 = .ok (.iaload, 1) := by decide +kernel
theorem dX5_isBefore_167 : decode cX5_isBefore 167 = .ok (.aload_n 0, 1) := by decide +kernel
theorem dX5_isBefore_168 : decode cX5_isBefore 168 = .ok (.getfield 23, 3) := by decide +kernel
theorem dX5_isBefore_171 : decode cX5_isBefore 171 = .ok (.iload_n 2, 1) := by decide +kernel
theorem dX5_isBefore_172 : decode cX5_isBefore 172 = .ok (.iaload, 1) := by decide +kernel
theorem dX5_isBefore_173 : decode cX5_isBefore 173 = .ok (.if_icmp .ge 7, 3) := by decide +kernel
theorem dX5_isBefore_176 : decode cX5_isBefore 176 = .ok (.iconst 1, 1) := by decide +kernel
theorem dX5_isBefore_177 : decode cX5_isBefore 177 = .ok (.goto 17, 3) := by decide +kernel
theorem dX5_isBefore_180 : decode cX5_isBefore 180 = .ok (.iconst 0, 1) := by decide +kernel
theorem dX5_isBefore_181 : decode cX5_isBefore 181 = .ok (.goto 13, 3) := by decide +kernel
theorem dX5_isBefore_184 : decode cX5_isBefore 184 = .ok (.iload_n 1, 1) := by decide +kernel
theorem dX5_isBefore_185 : decode cX5_isBefore 185 = .ok (.iload_n 2, 1) := by decide +kernel
theorem dX5_isBefore_186 : decode cX5_isBefore 186 = .ok (.if_icmp .ge 7, 3) := by decide +kernel
theorem dX5_isBefore_189 : decode cX5_isBefore 189 = .ok (.iconst 1, 1) := by decide +kernel
theorem dX5_isBefore_190 : decode cX5_isBefore 190 = .ok (.goto 4, 3) := by decide +kernel
theorem dX5_isBefore_193 : decode cX5_isBefore 193 = .ok (.iconst 0, 1) := by decide +kernel
theorem dX5_isBefore_194 : decode cX5_isBefore 194 = .ok (.ireturn, 1) := by decide +kernel
set_option maxHeartbeats 4000000 in
set_option maxRecDepth 100000 in
theorem lp_misb {p : Program} {l : Launch} {e : Env} {s : State} {m : MethodId} {below : List Frame} {meth : Method} {c : Code} (dC : Nat → ClassId) (dI : Nat → Nat → Nat) (st : Nat) {A : Nat → Prop} (q : Nat) (th : Int32) (tx : Nat) (mz : Nat) (fl : Int32) (it : Bool) (al : Int64) (pt : Nat) (dg : Nat) (ot : Nat) (wr : Nat) (kz : Nat) (ka : Nat) (kd : Nat) (kp : Nat) (ma : Nat) (wg : Bool) (c4 : ClassId) (KA : Nat → Int64) (c5 : ClassId) (KD : Nat → Int32) (c6 : ClassId) (KP : Nat → Int32) (a : Nat) (b : Nat) (la : Nat) (lb : Nat) (ha : a < 40) (hb2 : b < 40) (hla : KD a = nI la) (hlb : KD b = nI lb) (hla2 : la ≤ 250) (hlb2 : lb ≤ 250) (T : Bool) (Cx : kc_Cx yX5_isBefore cX5_isBefore (some .boolean) 4 wsX5_isBefore p s m ([.ref q, .int (nI a), .int (nI b)] : List Value).toArray meth c) (hA : ∀ q, s.heap.size ≤ q → A q) (hG : kg st A s) (hK : va_K (dC, dI) kcl [(c4, .long), (c5, .int), (c6, .int)] s) :
    ∀ (N : Nat) (i : Nat) (hi : i + N ≤ 250) (hN : 250 ≤ i + N) (hT : mBfT KP la lb a b (mbL KP la lb a b N i) = T) (ls : Array Slot), va_P (dC, dI) kcl [(q, .inr (5, [.int th, .ref tx, .int (nI mz), .int fl, .int (bI it), .long al, .ref pt, .int (nI dg), .ref ot, .int (nI wr), .int (nI kz), .ref ka, .ref kd, .ref kp, .int (nI ma), .int (bI wg)])), (ka, .inl (c4, 40, .inr (.inl KA))), (kd, .inl (c5, 40, .inl KD)), (kp, .inl (c6, 10240, .inl KP))] s.heap → va_D A [(q, .inr (5, [.int th, .ref tx, .int (nI mz), .int fl, .int (bI it), .long al, .ref pt, .int (nI dg), .ref ot, .int (nI wr), .int (nI kz), .ref ka, .ref kd, .ref kp, .int (nI ma), .int (bI wg)])), (ka, .inl (c4, 40, .inr (.inl KA))), (kd, .inl (c5, 40, .inl KD)), (kp, .inl (c6, 10240, .inl KP))] → va_S A s.heap s.heap [] → lv_has ls 4 [(0, .ref q), (1, .int (nI a)), (2, .int (nI b)), (3, .int (nI i))] → W p l e ({ frames := 0, cells := 0, slots := 0, locals := 0 }) s m ([.ref q, .int (nI a), .int (nI b)] : List Value).toArray below meth c s.heap [] 0 0 (MQ below (vp_Si (fun r => r = bI T)) ([.ref q, .int (nI a), .int (nI b)] : List Value).toArray s 0 0 (fun _ => False)) (F0 m 40 ls []) := by
  obtain ⟨hx, hb, hr, hml, hown, hts, hlocks, hnm⟩ := Cx
  intro N
  induction N with
  | zero =>
    intro i hi hN hT ls hP hD hS hl
    have h9 : la ≤ i := by omega
    have c_47 : nI la ≤ nI i := nI_le h9 (by omega)
    refine lv_iload_n hx hb dX5_isBefore_40 rfl (lv_at hl 3 rfl) ?_
    refine lv_aload_n hx hb dX5_isBefore_41 rfl (lv_at hl 0 rfl) ?_
    refine va_get (D := (dC, dI)) (ci := 5) (v := .ref kd) (C := RX5) (T := TX5) (N := 16) hx hb hts kin_5 hown hK hP 0 rfl rfl 12 (by decide) (hts _ (kcm kwm_297)) (fun _ h9 => h9) rfl dX5_isBefore_42 ?_
    refine lv_iload_n hx hb dX5_isBefore_45 rfl (lv_at hl 1 rfl) ?_
    refine va_iald hx hb hK hP 2 1 rfl rfl (vp_in_nI (by omega) (by decide)) dX5_isBefore_46 ?_
    rw [show (nI a).toNatClampNeg = a from nI_clamp (by omega)]
    rw [show KD a = nI la from hla]
    refine lv_icmp_ge (tgt := 93) hx hb dX5_isBefore_47 (by decide) (fun c_47 => ?_) (fun c_47 => ?_)
    · refine lv_iload_n hx hb dX5_isBefore_93 rfl (lv_at hl 3 rfl) ?_
      refine lv_aload_n hx hb dX5_isBefore_94 rfl (lv_at hl 0 rfl) ?_
      refine va_get (D := (dC, dI)) (ci := 5) (v := .ref kd) (C := RX5) (T := TX5) (N := 16) hx hb hts kin_5 hown hK hP 0 rfl rfl 12 (by decide) (hts _ (kcm kwm_297)) (fun _ h9 => h9) rfl dX5_isBefore_95 ?_
      refine lv_iload_n hx hb dX5_isBefore_98 rfl (lv_at hl 1 rfl) ?_
      refine va_iald hx hb hK hP 2 1 rfl rfl (vp_in_nI (by omega) (by decide)) dX5_isBefore_99 ?_
      rw [show (nI a).toNatClampNeg = a from nI_clamp (by omega)]
      rw [show KD a = nI la from hla]
      refine lv_icmp_ge (tgt := 146) hx hb dX5_isBefore_100 (by decide) (fun c_100 => ?_) (fun c_100 => ?_)
      · refine lv_aload_n hx hb dX5_isBefore_146 rfl (lv_at hl 0 rfl) ?_
        refine va_get (D := (dC, dI)) (ci := 5) (v := .ref kd) (C := RX5) (T := TX5) (N := 16) hx hb hts kin_5 hown hK hP 0 rfl rfl 12 (by decide) (hts _ (kcm kwm_297)) (fun _ h9 => h9) rfl dX5_isBefore_147 ?_
        refine lv_iload_n hx hb dX5_isBefore_150 rfl (lv_at hl 1 rfl) ?_
        refine va_iald hx hb hK hP 2 1 rfl rfl (vp_in_nI (by omega) (by decide)) dX5_isBefore_151 ?_
        rw [show (nI a).toNatClampNeg = a from nI_clamp (by omega)]
        rw [show KD a = nI la from hla]
        refine lv_aload_n hx hb dX5_isBefore_152 rfl (lv_at hl 0 rfl) ?_
        refine va_get (D := (dC, dI)) (ci := 5) (v := .ref kd) (C := RX5) (T := TX5) (N := 16) hx hb hts kin_5 hown hK hP 0 rfl rfl 12 (by decide) (hts _ (kcm kwm_297)) (fun _ h9 => h9) rfl dX5_isBefore_153 ?_
        refine lv_iload_n hx hb dX5_isBefore_156 rfl (lv_at hl 2 rfl) ?_
        refine va_iald hx hb hK hP 2 1 rfl rfl (vp_in_nI (by omega) (by decide)) dX5_isBefore_157 ?_
        rw [show (nI b).toNatClampNeg = b from nI_clamp (by omega)]
        rw [show KD b = nI lb from hlb]
        refine lv_icmp_eq (tgt := 184) hx hb dX5_isBefore_158 (by decide) (fun c_158 => ?_) (fun c_158 => ?_)
        · refine lv_iload_n hx hb dX5_isBefore_184 rfl (lv_at hl 1 rfl) ?_
          refine lv_iload_n hx hb dX5_isBefore_185 rfl (lv_at hl 2 rfl) ?_
          refine lv_icmp_ge (tgt := 193) hx hb dX5_isBefore_186 (by decide) (fun c_186 => ?_) (fun c_186 => ?_)
          · refine lv_iconst (v := 0) hx hb dX5_isBefore_193 (by decide) ?_
            have hT : mBfT KP la lb a b i = T := hT
            have hv9 : (0 : Int32) = bI T := by
              rw [← hT]; simp only [mBfT, if_pos c_47, if_pos c_158, if_pos c_186, bI_t, bI_f]
              try rfl
            exact kc_Szret hx hb hr hlocks hv9 (bI_nar hv9) dX5_isBefore_194
          · refine lv_iconst (v := 1) hx hb dX5_isBefore_189 (by decide) ?_
            refine lv_goto (tgt := 194) hx hb dX5_isBefore_190 (by decide) ?_
            have hT : mBfT KP la lb a b i = T := hT
            have hv9 : (1 : Int32) = bI T := by
              rw [← hT]; simp only [mBfT, if_pos c_47, if_pos c_158, if_neg c_186, bI_t, bI_f]
              try rfl
            exact kc_Szret hx hb hr hlocks hv9 (bI_nar hv9) dX5_isBefore_194
        · refine lv_aload_n hx hb dX5_isBefore_161 rfl (lv_at hl 0 rfl) ?_
          refine va_get (D := (dC, dI)) (ci := 5) (v := .ref kd) (C := RX5) (T := TX5) (N := 16) hx hb hts kin_5 hown hK hP 0 rfl rfl 12 (by decide) (hts _ (kcm kwm_297)) (fun _ h9 => h9) rfl dX5_isBefore_162 ?_
          refine lv_iload_n hx hb dX5_isBefore_165 rfl (lv_at hl 1 rfl) ?_
          refine va_iald hx hb hK hP 2 1 rfl rfl (vp_in_nI (by omega) (by decide)) dX5_isBefore_166 ?_
          rw [show (nI a).toNatClampNeg = a from nI_clamp (by omega)]
          rw [show KD a = nI la from hla]
          refine lv_aload_n hx hb dX5_isBefore_167 rfl (lv_at hl 0 rfl) ?_
          refine va_get (D := (dC, dI)) (ci := 5) (v := .ref kd) (C := RX5) (T := TX5) (N := 16) hx hb hts kin_5 hown hK hP 0 rfl rfl 12 (by decide) (hts _ (kcm kwm_297)) (fun _ h9 => h9) rfl dX5_isBefore_168 ?_
          refine lv_iload_n hx hb dX5_isBefore_171 rfl (lv_at hl 2 rfl) ?_
          refine va_iald hx hb hK hP 2 1 rfl rfl (vp_in_nI (by omega) (by decide)) dX5_isBefore_172 ?_
          rw [show (nI b).toNatClampNeg = b from nI_clamp (by omega)]
          rw [show KD b = nI lb from hlb]
          refine lv_icmp_ge (tgt := 180) hx hb dX5_isBefore_173 (by decide) (fun c_173 => ?_) (fun c_173 => ?_)
          · refine lv_iconst (v := 0) hx hb dX5_isBefore_180 (by decide) ?_
            refine lv_goto (tgt := 194) hx hb dX5_isBefore_181 (by decide) ?_
            have hT : mBfT KP la lb a b i = T := hT
            have hv9 : (0 : Int32) = bI T := by
              rw [← hT]; simp only [mBfT, if_pos c_47, if_neg c_158, if_pos c_173, bI_t, bI_f]
              try rfl
            exact kc_Szret hx hb hr hlocks hv9 (bI_nar hv9) dX5_isBefore_194
          · refine lv_iconst (v := 1) hx hb dX5_isBefore_176 (by decide) ?_
            refine lv_goto (tgt := 194) hx hb dX5_isBefore_177 (by decide) ?_
            have hT : mBfT KP la lb a b i = T := hT
            have hv9 : (1 : Int32) = bI T := by
              rw [← hT]; simp only [mBfT, if_pos c_47, if_neg c_158, if_neg c_173, bI_t, bI_f]
              try rfl
            exact kc_Szret hx hb hr hlocks hv9 (bI_nar hv9) dX5_isBefore_194
      · exact absurd c_47 c_100
    · exact absurd (nI_le (show la ≤ i by omega) (by omega)) c_47
  | succ N ih =>
    intro i hi hN hT ls hP hD hS hl
    refine lv_iload_n hx hb dX5_isBefore_40 rfl (lv_at hl 3 rfl) ?_
    refine lv_aload_n hx hb dX5_isBefore_41 rfl (lv_at hl 0 rfl) ?_
    refine va_get (D := (dC, dI)) (ci := 5) (v := .ref kd) (C := RX5) (T := TX5) (N := 16) hx hb hts kin_5 hown hK hP 0 rfl rfl 12 (by decide) (hts _ (kcm kwm_297)) (fun _ h9 => h9) rfl dX5_isBefore_42 ?_
    refine lv_iload_n hx hb dX5_isBefore_45 rfl (lv_at hl 1 rfl) ?_
    refine va_iald hx hb hK hP 2 1 rfl rfl (vp_in_nI (by omega) (by decide)) dX5_isBefore_46 ?_
    rw [show (nI a).toNatClampNeg = a from nI_clamp (by omega)]
    rw [show KD a = nI la from hla]
    refine lv_icmp_ge (tgt := 93) hx hb dX5_isBefore_47 (by decide) (fun c_47 => ?_) (fun c_47 => ?_)
    · refine lv_iload_n hx hb dX5_isBefore_93 rfl (lv_at hl 3 rfl) ?_
      refine lv_aload_n hx hb dX5_isBefore_94 rfl (lv_at hl 0 rfl) ?_
      refine va_get (D := (dC, dI)) (ci := 5) (v := .ref kd) (C := RX5) (T := TX5) (N := 16) hx hb hts kin_5 hown hK hP 0 rfl rfl 12 (by decide) (hts _ (kcm kwm_297)) (fun _ h9 => h9) rfl dX5_isBefore_95 ?_
      refine lv_iload_n hx hb dX5_isBefore_98 rfl (lv_at hl 1 rfl) ?_
      refine va_iald hx hb hK hP 2 1 rfl rfl (vp_in_nI (by omega) (by decide)) dX5_isBefore_99 ?_
      rw [show (nI a).toNatClampNeg = a from nI_clamp (by omega)]
      rw [show KD a = nI la from hla]
      refine lv_icmp_ge (tgt := 146) hx hb dX5_isBefore_100 (by decide) (fun c_100 => ?_) (fun c_100 => ?_)
      · refine lv_aload_n hx hb dX5_isBefore_146 rfl (lv_at hl 0 rfl) ?_
        refine va_get (D := (dC, dI)) (ci := 5) (v := .ref kd) (C := RX5) (T := TX5) (N := 16) hx hb hts kin_5 hown hK hP 0 rfl rfl 12 (by decide) (hts _ (kcm kwm_297)) (fun _ h9 => h9) rfl dX5_isBefore_147 ?_
        refine lv_iload_n hx hb dX5_isBefore_150 rfl (lv_at hl 1 rfl) ?_
        refine va_iald hx hb hK hP 2 1 rfl rfl (vp_in_nI (by omega) (by decide)) dX5_isBefore_151 ?_
        rw [show (nI a).toNatClampNeg = a from nI_clamp (by omega)]
        rw [show KD a = nI la from hla]
        refine lv_aload_n hx hb dX5_isBefore_152 rfl (lv_at hl 0 rfl) ?_
        refine va_get (D := (dC, dI)) (ci := 5) (v := .ref kd) (C := RX5) (T := TX5) (N := 16) hx hb hts kin_5 hown hK hP 0 rfl rfl 12 (by decide) (hts _ (kcm kwm_297)) (fun _ h9 => h9) rfl dX5_isBefore_153 ?_
        refine lv_iload_n hx hb dX5_isBefore_156 rfl (lv_at hl 2 rfl) ?_
        refine va_iald hx hb hK hP 2 1 rfl rfl (vp_in_nI (by omega) (by decide)) dX5_isBefore_157 ?_
        rw [show (nI b).toNatClampNeg = b from nI_clamp (by omega)]
        rw [show KD b = nI lb from hlb]
        refine lv_icmp_eq (tgt := 184) hx hb dX5_isBefore_158 (by decide) (fun c_158 => ?_) (fun c_158 => ?_)
        · refine lv_iload_n hx hb dX5_isBefore_184 rfl (lv_at hl 1 rfl) ?_
          refine lv_iload_n hx hb dX5_isBefore_185 rfl (lv_at hl 2 rfl) ?_
          refine lv_icmp_ge (tgt := 193) hx hb dX5_isBefore_186 (by decide) (fun c_186 => ?_) (fun c_186 => ?_)
          · refine lv_iconst (v := 0) hx hb dX5_isBefore_193 (by decide) ?_
            have hT : mBfT KP la lb a b i = T := (by rw [← hT, mbL_a (show la ≤ i by have := kb_ge c_47 (by omega); omega)])
            have hv9 : (0 : Int32) = bI T := by
              rw [← hT]; simp only [mBfT, if_pos c_47, if_pos c_158, if_pos c_186, bI_t, bI_f]
              try rfl
            exact kc_Szret hx hb hr hlocks hv9 (bI_nar hv9) dX5_isBefore_194
          · refine lv_iconst (v := 1) hx hb dX5_isBefore_189 (by decide) ?_
            refine lv_goto (tgt := 194) hx hb dX5_isBefore_190 (by decide) ?_
            have hT : mBfT KP la lb a b i = T := (by rw [← hT, mbL_a (show la ≤ i by have := kb_ge c_47 (by omega); omega)])
            have hv9 : (1 : Int32) = bI T := by
              rw [← hT]; simp only [mBfT, if_pos c_47, if_pos c_158, if_neg c_186, bI_t, bI_f]
              try rfl
            exact kc_Szret hx hb hr hlocks hv9 (bI_nar hv9) dX5_isBefore_194
        · refine lv_aload_n hx hb dX5_isBefore_161 rfl (lv_at hl 0 rfl) ?_
          refine va_get (D := (dC, dI)) (ci := 5) (v := .ref kd) (C := RX5) (T := TX5) (N := 16) hx hb hts kin_5 hown hK hP 0 rfl rfl 12 (by decide) (hts _ (kcm kwm_297)) (fun _ h9 => h9) rfl dX5_isBefore_162 ?_
          refine lv_iload_n hx hb dX5_isBefore_165 rfl (lv_at hl 1 rfl) ?_
          refine va_iald hx hb hK hP 2 1 rfl rfl (vp_in_nI (by omega) (by decide)) dX5_isBefore_166 ?_
          rw [show (nI a).toNatClampNeg = a from nI_clamp (by omega)]
          rw [show KD a = nI la from hla]
          refine lv_aload_n hx hb dX5_isBefore_167 rfl (lv_at hl 0 rfl) ?_
          refine va_get (D := (dC, dI)) (ci := 5) (v := .ref kd) (C := RX5) (T := TX5) (N := 16) hx hb hts kin_5 hown hK hP 0 rfl rfl 12 (by decide) (hts _ (kcm kwm_297)) (fun _ h9 => h9) rfl dX5_isBefore_168 ?_
          refine lv_iload_n hx hb dX5_isBefore_171 rfl (lv_at hl 2 rfl) ?_
          refine va_iald hx hb hK hP 2 1 rfl rfl (vp_in_nI (by omega) (by decide)) dX5_isBefore_172 ?_
          rw [show (nI b).toNatClampNeg = b from nI_clamp (by omega)]
          rw [show KD b = nI lb from hlb]
          refine lv_icmp_ge (tgt := 180) hx hb dX5_isBefore_173 (by decide) (fun c_173 => ?_) (fun c_173 => ?_)
          · refine lv_iconst (v := 0) hx hb dX5_isBefore_180 (by decide) ?_
            refine lv_goto (tgt := 194) hx hb dX5_isBefore_181 (by decide) ?_
            have hT : mBfT KP la lb a b i = T := (by rw [← hT, mbL_a (show la ≤ i by have := kb_ge c_47 (by omega); omega)])
            have hv9 : (0 : Int32) = bI T := by
              rw [← hT]; simp only [mBfT, if_pos c_47, if_neg c_158, if_pos c_173, bI_t, bI_f]
              try rfl
            exact kc_Szret hx hb hr hlocks hv9 (bI_nar hv9) dX5_isBefore_194
          · refine lv_iconst (v := 1) hx hb dX5_isBefore_176 (by decide) ?_
            refine lv_goto (tgt := 194) hx hb dX5_isBefore_177 (by decide) ?_
            have hT : mBfT KP la lb a b i = T := (by rw [← hT, mbL_a (show la ≤ i by have := kb_ge c_47 (by omega); omega)])
            have hv9 : (1 : Int32) = bI T := by
              rw [← hT]; simp only [mBfT, if_pos c_47, if_neg c_158, if_neg c_173, bI_t, bI_f]
              try rfl
            exact kc_Szret hx hb hr hlocks hv9 (bI_nar hv9) dX5_isBefore_194
      · exact absurd c_47 c_100
    · refine lv_iload_n hx hb dX5_isBefore_50 rfl (lv_at hl 3 rfl) ?_
      refine lv_aload_n hx hb dX5_isBefore_51 rfl (lv_at hl 0 rfl) ?_
      refine va_get (D := (dC, dI)) (ci := 5) (v := .ref kd) (C := RX5) (T := TX5) (N := 16) hx hb hts kin_5 hown hK hP 0 rfl rfl 12 (by decide) (hts _ (kcm kwm_297)) (fun _ h9 => h9) rfl dX5_isBefore_52 ?_
      refine lv_iload_n hx hb dX5_isBefore_55 rfl (lv_at hl 2 rfl) ?_
      refine va_iald hx hb hK hP 2 1 rfl rfl (vp_in_nI (by omega) (by decide)) dX5_isBefore_56 ?_
      rw [show (nI b).toNatClampNeg = b from nI_clamp (by omega)]
      rw [show KD b = nI lb from hlb]
      refine lv_icmp_ge (tgt := 93) hx hb dX5_isBefore_57 (by decide) (fun c_57 => ?_) (fun c_57 => ?_)
      · refine lv_iload_n hx hb dX5_isBefore_93 rfl (lv_at hl 3 rfl) ?_
        refine lv_aload_n hx hb dX5_isBefore_94 rfl (lv_at hl 0 rfl) ?_
        refine va_get (D := (dC, dI)) (ci := 5) (v := .ref kd) (C := RX5) (T := TX5) (N := 16) hx hb hts kin_5 hown hK hP 0 rfl rfl 12 (by decide) (hts _ (kcm kwm_297)) (fun _ h9 => h9) rfl dX5_isBefore_95 ?_
        refine lv_iload_n hx hb dX5_isBefore_98 rfl (lv_at hl 1 rfl) ?_
        refine va_iald hx hb hK hP 2 1 rfl rfl (vp_in_nI (by omega) (by decide)) dX5_isBefore_99 ?_
        rw [show (nI a).toNatClampNeg = a from nI_clamp (by omega)]
        rw [show KD a = nI la from hla]
        refine lv_icmp_ge (tgt := 146) hx hb dX5_isBefore_100 (by decide) (fun c_100 => ?_) (fun c_100 => ?_)
        · exact absurd c_100 c_47
        · refine lv_iload_n hx hb dX5_isBefore_103 rfl (lv_at hl 3 rfl) ?_
          refine lv_aload_n hx hb dX5_isBefore_104 rfl (lv_at hl 0 rfl) ?_
          refine va_get (D := (dC, dI)) (ci := 5) (v := .ref kd) (C := RX5) (T := TX5) (N := 16) hx hb hts kin_5 hown hK hP 0 rfl rfl 12 (by decide) (hts _ (kcm kwm_297)) (fun _ h9 => h9) rfl dX5_isBefore_105 ?_
          refine lv_iload_n hx hb dX5_isBefore_108 rfl (lv_at hl 2 rfl) ?_
          refine va_iald hx hb hK hP 2 1 rfl rfl (vp_in_nI (by omega) (by decide)) dX5_isBefore_109 ?_
          rw [show (nI b).toNatClampNeg = b from nI_clamp (by omega)]
          rw [show KD b = nI lb from hlb]
          refine lv_icmp_ge (tgt := 146) hx hb dX5_isBefore_110 (by decide) (fun c_110 => ?_) (fun c_110 => ?_)
          · refine lv_aload_n hx hb dX5_isBefore_146 rfl (lv_at hl 0 rfl) ?_
            refine va_get (D := (dC, dI)) (ci := 5) (v := .ref kd) (C := RX5) (T := TX5) (N := 16) hx hb hts kin_5 hown hK hP 0 rfl rfl 12 (by decide) (hts _ (kcm kwm_297)) (fun _ h9 => h9) rfl dX5_isBefore_147 ?_
            refine lv_iload_n hx hb dX5_isBefore_150 rfl (lv_at hl 1 rfl) ?_
            refine va_iald hx hb hK hP 2 1 rfl rfl (vp_in_nI (by omega) (by decide)) dX5_isBefore_151 ?_
            rw [show (nI a).toNatClampNeg = a from nI_clamp (by omega)]
            rw [show KD a = nI la from hla]
            refine lv_aload_n hx hb dX5_isBefore_152 rfl (lv_at hl 0 rfl) ?_
            refine va_get (D := (dC, dI)) (ci := 5) (v := .ref kd) (C := RX5) (T := TX5) (N := 16) hx hb hts kin_5 hown hK hP 0 rfl rfl 12 (by decide) (hts _ (kcm kwm_297)) (fun _ h9 => h9) rfl dX5_isBefore_153 ?_
            refine lv_iload_n hx hb dX5_isBefore_156 rfl (lv_at hl 2 rfl) ?_
            refine va_iald hx hb hK hP 2 1 rfl rfl (vp_in_nI (by omega) (by decide)) dX5_isBefore_157 ?_
            rw [show (nI b).toNatClampNeg = b from nI_clamp (by omega)]
            rw [show KD b = nI lb from hlb]
            refine lv_icmp_eq (tgt := 184) hx hb dX5_isBefore_158 (by decide) (fun c_158 => ?_) (fun c_158 => ?_)
            · refine lv_iload_n hx hb dX5_isBefore_184 rfl (lv_at hl 1 rfl) ?_
              refine lv_iload_n hx hb dX5_isBefore_185 rfl (lv_at hl 2 rfl) ?_
              refine lv_icmp_ge (tgt := 193) hx hb dX5_isBefore_186 (by decide) (fun c_186 => ?_) (fun c_186 => ?_)
              · refine lv_iconst (v := 0) hx hb dX5_isBefore_193 (by decide) ?_
                have hT : mBfT KP la lb a b i = T := (by rw [← hT, mbL_b (show lb ≤ i by have := kb_ge c_57 (by omega); omega)])
                have hv9 : (0 : Int32) = bI T := by
                  rw [← hT]; simp only [mBfT, if_neg c_47, if_pos c_57, if_pos c_158, if_pos c_186, bI_t, bI_f]
                  try rfl
                exact kc_Szret hx hb hr hlocks hv9 (bI_nar hv9) dX5_isBefore_194
              · refine lv_iconst (v := 1) hx hb dX5_isBefore_189 (by decide) ?_
                refine lv_goto (tgt := 194) hx hb dX5_isBefore_190 (by decide) ?_
                have hT : mBfT KP la lb a b i = T := (by rw [← hT, mbL_b (show lb ≤ i by have := kb_ge c_57 (by omega); omega)])
                have hv9 : (1 : Int32) = bI T := by
                  rw [← hT]; simp only [mBfT, if_neg c_47, if_pos c_57, if_pos c_158, if_neg c_186, bI_t, bI_f]
                  try rfl
                exact kc_Szret hx hb hr hlocks hv9 (bI_nar hv9) dX5_isBefore_194
            · refine lv_aload_n hx hb dX5_isBefore_161 rfl (lv_at hl 0 rfl) ?_
              refine va_get (D := (dC, dI)) (ci := 5) (v := .ref kd) (C := RX5) (T := TX5) (N := 16) hx hb hts kin_5 hown hK hP 0 rfl rfl 12 (by decide) (hts _ (kcm kwm_297)) (fun _ h9 => h9) rfl dX5_isBefore_162 ?_
              refine lv_iload_n hx hb dX5_isBefore_165 rfl (lv_at hl 1 rfl) ?_
              refine va_iald hx hb hK hP 2 1 rfl rfl (vp_in_nI (by omega) (by decide)) dX5_isBefore_166 ?_
              rw [show (nI a).toNatClampNeg = a from nI_clamp (by omega)]
              rw [show KD a = nI la from hla]
              refine lv_aload_n hx hb dX5_isBefore_167 rfl (lv_at hl 0 rfl) ?_
              refine va_get (D := (dC, dI)) (ci := 5) (v := .ref kd) (C := RX5) (T := TX5) (N := 16) hx hb hts kin_5 hown hK hP 0 rfl rfl 12 (by decide) (hts _ (kcm kwm_297)) (fun _ h9 => h9) rfl dX5_isBefore_168 ?_
              refine lv_iload_n hx hb dX5_isBefore_171 rfl (lv_at hl 2 rfl) ?_
              refine va_iald hx hb hK hP 2 1 rfl rfl (vp_in_nI (by omega) (by decide)) dX5_isBefore_172 ?_
              rw [show (nI b).toNatClampNeg = b from nI_clamp (by omega)]
              rw [show KD b = nI lb from hlb]
              refine lv_icmp_ge (tgt := 180) hx hb dX5_isBefore_173 (by decide) (fun c_173 => ?_) (fun c_173 => ?_)
              · refine lv_iconst (v := 0) hx hb dX5_isBefore_180 (by decide) ?_
                refine lv_goto (tgt := 194) hx hb dX5_isBefore_181 (by decide) ?_
                have hT : mBfT KP la lb a b i = T := (by rw [← hT, mbL_b (show lb ≤ i by have := kb_ge c_57 (by omega); omega)])
                have hv9 : (0 : Int32) = bI T := by
                  rw [← hT]; simp only [mBfT, if_neg c_47, if_pos c_57, if_neg c_158, if_pos c_173, bI_t, bI_f]
                  try rfl
                exact kc_Szret hx hb hr hlocks hv9 (bI_nar hv9) dX5_isBefore_194
              · refine lv_iconst (v := 1) hx hb dX5_isBefore_176 (by decide) ?_
                refine lv_goto (tgt := 194) hx hb dX5_isBefore_177 (by decide) ?_
                have hT : mBfT KP la lb a b i = T := (by rw [← hT, mbL_b (show lb ≤ i by have := kb_ge c_57 (by omega); omega)])
                have hv9 : (1 : Int32) = bI T := by
                  rw [← hT]; simp only [mBfT, if_neg c_47, if_pos c_57, if_neg c_158, if_neg c_173, bI_t, bI_f]
                  try rfl
                exact kc_Szret hx hb hr hlocks hv9 (bI_nar hv9) dX5_isBefore_194
          · exact absurd c_57 c_110
      · refine lv_aload_n hx hb dX5_isBefore_60 rfl (lv_at hl 0 rfl) ?_
        refine va_get (D := (dC, dI)) (ci := 5) (v := .ref kp) (C := RX5) (T := TX5) (N := 16) hx hb hts kin_5 hown hK hP 0 rfl rfl 13 (by decide) (hts _ (kcm kwm_296)) (fun _ h9 => h9) rfl dX5_isBefore_61 ?_
        refine lv_sipush (v := 256) hx hb dX5_isBefore_64 (by decide) ?_
        refine lv_iload_n hx hb dX5_isBefore_67 rfl (lv_at hl 1 rfl) ?_
        refine lv_imul hx hb dX5_isBefore_68 ?_
        rw [show 256 * (nI a) = nI (256 * a) from pk_mul 256 a]
        refine lv_iload_n hx hb dX5_isBefore_69 rfl (lv_at hl 3 rfl) ?_
        refine lv_iadd hx hb dX5_isBefore_70 ?_
        rw [show (nI (256 * a)) + (nI i) = nI (256 * a + i) from nI_add _ _]
        refine va_iald hx hb hK hP 3 2 rfl rfl (vp_in_nI (by omega) (by decide)) dX5_isBefore_71 ?_
        rw [show (nI (256 * a + i)).toNatClampNeg = (256 * a + i) from nI_clamp (by omega)]
        refine lv_aload_n hx hb dX5_isBefore_72 rfl (lv_at hl 0 rfl) ?_
        refine va_get (D := (dC, dI)) (ci := 5) (v := .ref kp) (C := RX5) (T := TX5) (N := 16) hx hb hts kin_5 hown hK hP 0 rfl rfl 13 (by decide) (hts _ (kcm kwm_296)) (fun _ h9 => h9) rfl dX5_isBefore_73 ?_
        refine lv_sipush (v := 256) hx hb dX5_isBefore_76 (by decide) ?_
        refine lv_iload_n hx hb dX5_isBefore_79 rfl (lv_at hl 2 rfl) ?_
        refine lv_imul hx hb dX5_isBefore_80 ?_
        rw [show 256 * (nI b) = nI (256 * b) from pk_mul 256 b]
        refine lv_iload_n hx hb dX5_isBefore_81 rfl (lv_at hl 3 rfl) ?_
        refine lv_iadd hx hb dX5_isBefore_82 ?_
        rw [show (nI (256 * b)) + (nI i) = nI (256 * b + i) from nI_add _ _]
        refine va_iald hx hb hK hP 3 2 rfl rfl (vp_in_nI (by omega) (by decide)) dX5_isBefore_83 ?_
        rw [show (nI (256 * b + i)).toNatClampNeg = (256 * b + i) from nI_clamp (by omega)]
        refine lv_icmp_ne (tgt := 93) hx hb dX5_isBefore_84 (by decide) (fun c_84 => ?_) (fun c_84 => ?_)
        · refine lv_iload_n hx hb dX5_isBefore_93 rfl (lv_at hl 3 rfl) ?_
          refine lv_aload_n hx hb dX5_isBefore_94 rfl (lv_at hl 0 rfl) ?_
          refine va_get (D := (dC, dI)) (ci := 5) (v := .ref kd) (C := RX5) (T := TX5) (N := 16) hx hb hts kin_5 hown hK hP 0 rfl rfl 12 (by decide) (hts _ (kcm kwm_297)) (fun _ h9 => h9) rfl dX5_isBefore_95 ?_
          refine lv_iload_n hx hb dX5_isBefore_98 rfl (lv_at hl 1 rfl) ?_
          refine va_iald hx hb hK hP 2 1 rfl rfl (vp_in_nI (by omega) (by decide)) dX5_isBefore_99 ?_
          rw [show (nI a).toNatClampNeg = a from nI_clamp (by omega)]
          rw [show KD a = nI la from hla]
          refine lv_icmp_ge (tgt := 146) hx hb dX5_isBefore_100 (by decide) (fun c_100 => ?_) (fun c_100 => ?_)
          · exact absurd c_100 c_47
          · refine lv_iload_n hx hb dX5_isBefore_103 rfl (lv_at hl 3 rfl) ?_
            refine lv_aload_n hx hb dX5_isBefore_104 rfl (lv_at hl 0 rfl) ?_
            refine va_get (D := (dC, dI)) (ci := 5) (v := .ref kd) (C := RX5) (T := TX5) (N := 16) hx hb hts kin_5 hown hK hP 0 rfl rfl 12 (by decide) (hts _ (kcm kwm_297)) (fun _ h9 => h9) rfl dX5_isBefore_105 ?_
            refine lv_iload_n hx hb dX5_isBefore_108 rfl (lv_at hl 2 rfl) ?_
            refine va_iald hx hb hK hP 2 1 rfl rfl (vp_in_nI (by omega) (by decide)) dX5_isBefore_109 ?_
            rw [show (nI b).toNatClampNeg = b from nI_clamp (by omega)]
            rw [show KD b = nI lb from hlb]
            refine lv_icmp_ge (tgt := 146) hx hb dX5_isBefore_110 (by decide) (fun c_110 => ?_) (fun c_110 => ?_)
            · exact absurd c_110 c_57
            · refine lv_aload_n hx hb dX5_isBefore_113 rfl (lv_at hl 0 rfl) ?_
              refine va_get (D := (dC, dI)) (ci := 5) (v := .ref kp) (C := RX5) (T := TX5) (N := 16) hx hb hts kin_5 hown hK hP 0 rfl rfl 13 (by decide) (hts _ (kcm kwm_296)) (fun _ h9 => h9) rfl dX5_isBefore_114 ?_
              refine lv_sipush (v := 256) hx hb dX5_isBefore_117 (by decide) ?_
              refine lv_iload_n hx hb dX5_isBefore_120 rfl (lv_at hl 1 rfl) ?_
              refine lv_imul hx hb dX5_isBefore_121 ?_
              rw [show 256 * (nI a) = nI (256 * a) from pk_mul 256 a]
              refine lv_iload_n hx hb dX5_isBefore_122 rfl (lv_at hl 3 rfl) ?_
              refine lv_iadd hx hb dX5_isBefore_123 ?_
              rw [show (nI (256 * a)) + (nI i) = nI (256 * a + i) from nI_add _ _]
              refine va_iald hx hb hK hP 3 2 rfl rfl (vp_in_nI (by omega) (by decide)) dX5_isBefore_124 ?_
              rw [show (nI (256 * a + i)).toNatClampNeg = (256 * a + i) from nI_clamp (by omega)]
              refine lv_aload_n hx hb dX5_isBefore_125 rfl (lv_at hl 0 rfl) ?_
              refine va_get (D := (dC, dI)) (ci := 5) (v := .ref kp) (C := RX5) (T := TX5) (N := 16) hx hb hts kin_5 hown hK hP 0 rfl rfl 13 (by decide) (hts _ (kcm kwm_296)) (fun _ h9 => h9) rfl dX5_isBefore_126 ?_
              refine lv_sipush (v := 256) hx hb dX5_isBefore_129 (by decide) ?_
              refine lv_iload_n hx hb dX5_isBefore_132 rfl (lv_at hl 2 rfl) ?_
              refine lv_imul hx hb dX5_isBefore_133 ?_
              rw [show 256 * (nI b) = nI (256 * b) from pk_mul 256 b]
              refine lv_iload_n hx hb dX5_isBefore_134 rfl (lv_at hl 3 rfl) ?_
              refine lv_iadd hx hb dX5_isBefore_135 ?_
              rw [show (nI (256 * b)) + (nI i) = nI (256 * b + i) from nI_add _ _]
              refine va_iald hx hb hK hP 3 2 rfl rfl (vp_in_nI (by omega) (by decide)) dX5_isBefore_136 ?_
              rw [show (nI (256 * b + i)).toNatClampNeg = (256 * b + i) from nI_clamp (by omega)]
              refine lv_icmp_ge (tgt := 144) hx hb dX5_isBefore_137 (by decide) (fun c_137 => ?_) (fun c_137 => ?_)
              · refine lv_iconst (v := 0) hx hb dX5_isBefore_144 (by decide) ?_
                have hT : mBfT KP la lb a b i = T := (by rw [← hT, mbL_n c_84])
                have hv9 : (0 : Int32) = bI T := by
                  rw [← hT]; simp only [mBfT, if_neg c_47, if_neg c_57, if_neg c_84, if_pos c_137, bI_t, bI_f]
                  try rfl
                exact kc_Szret hx hb hr hlocks hv9 (bI_nar hv9) dX5_isBefore_145
              · refine lv_iconst (v := 1) hx hb dX5_isBefore_140 (by decide) ?_
                refine lv_goto (tgt := 145) hx hb dX5_isBefore_141 (by decide) ?_
                have hT : mBfT KP la lb a b i = T := (by rw [← hT, mbL_n c_84])
                have hv9 : (1 : Int32) = bI T := by
                  rw [← hT]; simp only [mBfT, if_neg c_47, if_neg c_57, if_neg c_84, if_neg c_137, bI_t, bI_f]
                  try rfl
                exact kc_Szret hx hb hr hlocks hv9 (bI_nar hv9) dX5_isBefore_145
        · refine lv_iinc (v := (nI i) + 1) (lv' := [(3, .int ((nI i) + 1)), (0, .ref q), (1, .int (nI a)), (2, .int (nI b))]) hx hb dX5_isBefore_87 hl (k := 3) rfl (congrArg (fun z => (nI i) + z) (show Int32.ofInt (1) = (1 : Int32) by decide)) (by decide) rfl (fun ls hl => ?_)
          refine lv_goto (tgt := 40) hx hb dX5_isBefore_90 (by decide) ?_
          rw [nI_1] at hl
          exact ih (i + 1) (by omega) (by omega) (by rw [← hT, mbL_s (show ¬ la ≤ i from fun z => c_47 (nI_le z (by omega))) (show ¬ lb ≤ i from fun z => c_57 (nI_le z (by omega))) c_84]) ls hP hD hS (lv_sub hl [1, 2, 3, 0] rfl)
set_option maxHeartbeats 4000000 in
set_option maxRecDepth 100000 in
theorem m_isBefore (l : Launch) (dC : Nat → ClassId) (dI : Nat → Nat → Nat) (st sz : Nat) (q : Nat) (th : Int32) (tx : Nat) (mz : Nat) (fl : Int32) (it : Bool) (al : Int64) (pt : Nat) (dg : Nat) (ot : Nat) (wr : Nat) (kz : Nat) (ka : Nat) (kd : Nat) (kp : Nat) (ma : Nat) (wg : Bool) (c4 : ClassId) (KA : Nat → Int64) (c5 : ClassId) (KD : Nat → Int32) (c6 : ClassId) (KP : Nat → Int32) (a : Nat) (b : Nat) (la : Nat) (lb : Nat) (ha : a < 40) (hb2 : b < 40) (hla : KD a = nI la) (hlb : KD b = nI lb) (hla2 : la ≤ 250) (hlb2 : lb ≤ 250) : Met l yX5_isBefore wsX5_isBefore ({ frames := 0, cells := 0, slots := 0, locals := 0 }) (kc_Pc (dC, dI) kcl st sz [.ref q, .int (nI a), .int (nI b)] [(q, .inr (5, [.int th, .ref tx, .int (nI mz), .int fl, .int (bI it), .long al, .ref pt, .int (nI dg), .ref ot, .int (nI wr), .int (nI kz), .ref ka, .ref kd, .ref kp, .int (nI ma), .int (bI wg)])), (ka, .inl (c4, 40, .inr (.inl KA))), (kd, .inl (c5, 40, .inl KD)), (kp, .inl (c6, 10240, .inl KP))] [(c4, .long), (c5, .int), (c6, .int)]) (vp_Si (fun r => r = bI (mBef KA KP a b la lb))) 0 0 (fun _ => False) := by
  refine kc_ofS (cc := cX5_isBefore) (maxL := 4) (ret := (some .boolean)) (by decide) rfl (Nat.le_of_ble_eq_true rfl) ?_
  intro p e s m below meth c A ls Cx hA hG hK hP hD hS hl
  obtain ⟨hx, hb, hr, hml, hown, hts, hlocks, hnm⟩ := id Cx
  have hl : lv_has ls 4 [(0, .ref q), (1, .int (nI a)), (2, .int (nI b))] := hl
  refine lv_aload_n hx hb dX5_isBefore_0 rfl (lv_at hl 0 rfl) ?_
  refine va_get (D := (dC, dI)) (ci := 5) (v := .ref ka) (C := RX5) (T := TX5) (N := 16) hx hb hts kin_5 hown hK hP 0 rfl rfl 11 (by decide) (hts _ (kcm kwm_295)) (fun _ h9 => h9) rfl dX5_isBefore_1 ?_
  refine lv_iload_n hx hb dX5_isBefore_4 rfl (lv_at hl 1 rfl) ?_
  refine va_lald hx hb hK hP 1 0 rfl rfl (vp_in_nI (by omega) (by decide)) dX5_isBefore_5 ?_
  rw [show (nI a).toNatClampNeg = a from nI_clamp (by omega)]
  refine lv_aload_n hx hb dX5_isBefore_6 rfl (lv_at hl 0 rfl) ?_
  refine va_get (D := (dC, dI)) (ci := 5) (v := .ref ka) (C := RX5) (T := TX5) (N := 16) hx hb hts kin_5 hown hK hP 0 rfl rfl 11 (by decide) (hts _ (kcm kwm_295)) (fun _ h9 => h9) rfl dX5_isBefore_7 ?_
  refine lv_iload_n hx hb dX5_isBefore_10 rfl (lv_at hl 2 rfl) ?_
  refine va_lald hx hb hK hP 1 0 rfl rfl (vp_in_nI (by omega) (by decide)) dX5_isBefore_11 ?_
  rw [show (nI b).toNatClampNeg = b from nI_clamp (by omega)]
  refine W.lcmp hx hb dX5_isBefore_12 ?_
  refine lv_if_eq (tgt := 38) hx hb dX5_isBefore_13 (by decide) (fun c_13 => ?_) (fun c_13 => ?_)
  · refine lv_iconst (v := 0) hx hb dX5_isBefore_38 (by decide) ?_
    refine lv_istore_n (lv' := [(3, .int 0), (0, .ref q), (1, .int (nI a)), (2, .int (nI b))]) hx hb dX5_isBefore_39 rfl hl (by decide) rfl (fun ls hl => ?_)
    have hv9 : mBef KA KP a b la lb = mBfT KP la lb a b (mbL KP la lb a b 250 0) := if_pos c_13
    rw [hv9]
    rw [← nI_0] at hl
    exact lp_misb dC dI st q th tx mz fl it al pt dg ot wr kz ka kd kp ma wg c4 KA c5 KD c6 KP a b la lb ha hb2 hla hlb hla2 hlb2 (mBfT KP la lb a b (mbL KP la lb a b 250 0)) Cx hA hG hK 250 0 (by omega) (by omega) rfl ls hP hD hS (lv_sub hl [1, 2, 3, 0] rfl)
  · refine lv_aload_n hx hb dX5_isBefore_16 rfl (lv_at hl 0 rfl) ?_
    refine va_get (D := (dC, dI)) (ci := 5) (v := .ref ka) (C := RX5) (T := TX5) (N := 16) hx hb hts kin_5 hown hK hP 0 rfl rfl 11 (by decide) (hts _ (kcm kwm_295)) (fun _ h9 => h9) rfl dX5_isBefore_17 ?_
    refine lv_iload_n hx hb dX5_isBefore_20 rfl (lv_at hl 1 rfl) ?_
    refine va_lald hx hb hK hP 1 0 rfl rfl (vp_in_nI (by omega) (by decide)) dX5_isBefore_21 ?_
    rw [show (nI a).toNatClampNeg = a from nI_clamp (by omega)]
    refine lv_aload_n hx hb dX5_isBefore_22 rfl (lv_at hl 0 rfl) ?_
    refine va_get (D := (dC, dI)) (ci := 5) (v := .ref ka) (C := RX5) (T := TX5) (N := 16) hx hb hts kin_5 hown hK hP 0 rfl rfl 11 (by decide) (hts _ (kcm kwm_295)) (fun _ h9 => h9) rfl dX5_isBefore_23 ?_
    refine lv_iload_n hx hb dX5_isBefore_26 rfl (lv_at hl 2 rfl) ?_
    refine va_lald hx hb hK hP 1 0 rfl rfl (vp_in_nI (by omega) (by decide)) dX5_isBefore_27 ?_
    rw [show (nI b).toNatClampNeg = b from nI_clamp (by omega)]
    refine W.lcmp hx hb dX5_isBefore_28 ?_
    refine lv_if_ge (tgt := 36) hx hb dX5_isBefore_29 (by decide) (fun c_29 => ?_) (fun c_29 => ?_)
    · refine lv_iconst (v := 0) hx hb dX5_isBefore_36 (by decide) ?_
      have hv9 : (0 : Int32) = bI (mBef KA KP a b la lb) := by
        simp only [mBef, if_neg c_13, if_pos c_29, bI_t, bI_f]
        try rfl
      exact kc_Szret hx hb hr hlocks hv9 (bI_nar hv9) dX5_isBefore_37
    · refine lv_iconst (v := 1) hx hb dX5_isBefore_32 (by decide) ?_
      refine lv_goto (tgt := 37) hx hb dX5_isBefore_33 (by decide) ?_
      have hv9 : (1 : Int32) = bI (mBef KA KP a b la lb) := by
        simp only [mBef, if_neg c_13, if_neg c_29, bI_t, bI_f]
        try rfl
      exact kc_Szret hx hb hr hlocks hv9 (bI_nar hv9) dX5_isBefore_37
