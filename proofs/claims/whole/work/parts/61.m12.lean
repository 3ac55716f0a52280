abbrev cX5_init : ByteArray := prog_7_method_1_code
def yX5_init : MethodName := ⟨RX5, "<init>", "()V"⟩
abbrev cX5_order : ByteArray := prog_7_method_34_code
def yX5_order : MethodName := ⟨RX5, "order", "(I)I"⟩
abbrev wsX5_init : List Cond := .code yX5_init cX5_init 1 none :: kw
abbrev wsX5_order : List Cond := .code yX5_order cX5_order 5 (some .int) :: kw
theorem kwm_298 : (.code yX5_isBefore cX5_isBefore 4 (some .boolean) : Cond) ∈ kw := kw_in (i := 706) (by decide +kernel) (by decide +kernel)
theorem kwm_299 : (.methodLink RX5 137 yX5_isBefore : Cond) ∈ kw := kw_in (i := 703) (by decide +kernel) (by decide +kernel)
theorem kwm_300 : (.instanceMethod yX5_isBefore : Cond) ∈ kw := kw_in (i := 705) (by decide +kernel) (by decide +kernel)
theorem kwm_301 : (.selects RX5 yX5_isBefore yX5_isBefore : Cond) ∈ kw := kw_in (i := 31) (by decide +kernel) (by decide +kernel)
theorem kwm_302 : (.methodLink RX5 1 objectInit : Cond) ∈ kw := kw_in (i := 528) (by decide +kernel) (by decide +kernel)
theorem dX5_order_0 : decode cX5_order 0 = .ok (.aload_n 0, 1) := by decide +kernel
theorem dX5_order_1 : decode cX5_order 1 = .ok (.aload_n 0, 1) := by decide +kernel
theorem dX5_order_2 : decode cX5_order 2 = .ok (.iload_n 1, 1) := by decide +kernel
theorem dX5_order_3 : decode cX5_order 3 = .ok (.invokevirtual 134, 3) := by decide +kernel
theorem dX5_order_6 : decode cX5_order 6 = .ok (.ifCond .eq 7, 3) := by decide +kernel
theorem dX5_order_9 : decode cX5_order 9 = .ok (.iconst 0, 1) := by decide +kernel
theorem dX5_order_10 : decode cX5_order 10 = .ok (.goto 4, 3) := by decide +kernel
theorem dX5_order_13 : decode cX5_order 13 = .ok (.iconst 1, 1) := by decide +kernel
theorem dX5_order_14 : decode cX5_order 14 = .ok (.putfield 29, 3) := by decide +kernel
theorem dX5_order_17 : decode cX5_order 17 = .ok (.aload_n 0, 1) := by decide +kernel
theorem dX5_order_18 : decode cX5_order 18 = .ok (.getfield 29, 3) := by decide +kernel
theorem dX5_order_21 : decode cX5_order 21 = .ok (.ifCond .le 5, 3) := by decide +kernel
theorem dX5_order_24 : decode cX5_order 24 = .ok (.iconst 0, 1) := by decide +kernel
theorem dX5_order_25 : decode cX5_order 25 = .ok (.ireturn, 1) := by decide +kernel
theorem dX5_order_26 : decode cX5_order 26 = .ok (.iconst 0, 1) := by decide +kernel
theorem dX5_order_27 : decode cX5_order 27 = .ok (.istore_n 2, 1) := by decide +kernel
theorem dX5_order_28 : decode cX5_order 28 = .ok (.iload_n 2, 1) := by decide +kernel
theorem dX5_order_29 : decode cX5_order 29 = .ok (.aload_n 0, 1) := by decide +kernel
theorem dX5_order_30 : decode cX5_order 30 = .ok (.getfield 131, 3) := by decide +kernel
theorem dX5_order_33 : decode cX5_order 33 = .ok (.if_icmp .ge 54, 3) := by decide +kernel
theorem dX5_order_36 : decode cX5_order 36 = .ok (.iconst 0, 1) := by decide +kernel
theorem dX5_order_37 : decode cX5_order 37 = .ok (.istore_n 3, 1) := by decide +kernel
theorem dX5_order_38 : decode cX5_order 38 = .ok (.iconst 0, 1) := by decide +kernel
theorem dX5_order_39 : decode cX5_order 39 = .ok (.istore 4, 2) := by decide +kernel
theorem dX5_order_41 : decode cX5_order 41 = .ok (.iload 4, 2) := by decide +kernel
theorem dX5_order_43 : decode cX5_order 43 = .ok (.aload_n 0, 1) := by decide +kernel
theorem dX5_order_44 : decode cX5_order 44 = .ok (.getfield 131, 3) := by decide +kernel
theorem dX5_order_47 : decode cX5_order 47 = .ok (.if_icmp .ge 27, 3) := by decide +kernel
theorem dX5_order_50 : decode cX5_order 50 = .ok (.iload_n 3, 1) := by decide +kernel
theorem dX5_order_51 : decode cX5_order 51 = .ok (.aload_n 0, 1) := by decide +kernel
theorem dX5_order_52 : decode cX5_order 52 = .ok (.iload 4, 2) := by decide +kernel
theorem dX5_order_54 : decode cX5_order 54 = .ok (.iload_n 2, 1) := by decide +kernel
theorem dX5_order_55 : decode cX5_order 55 = .ok (.invokevirtual 137, 3) := by decide +kernel
theorem dX5_order_58 : decode cX5_order 58 = .ok (.ifCond .eq 7, 3) := by decide +kernel
theorem dX5_order_61 : decode cX5_order 61 = .ok (.iconst 1, 1) := by decide +kernel
theorem dX5_order_62 : decode cX5_order 62 = .ok (.goto 4, 3) := by decide +kernel
theorem dX5_order_65 : decode cX5_order 65 = .ok (.iconst 0, 1) := by decide +kernel
theorem dX5_order_66 : decode cX5_order 66 = .ok (.iadd, 1) := by decide +kernel
theorem dX5_order_67 : decode cX5_order 67 = .ok (.istore_n 3, 1) := by decide +kernel
theorem dX5_order_68 : decode cX5_order 68 = .ok (.iinc 4 1, 3) := by decide +kernel
theorem dX5_order_71 : decode cX5_order 71 = .ok (.goto (-30), 3) := by decide +kernel
theorem dX5_order_74 : decode cX5_order 74 = .ok (.iload_n 3, 1) := by decide +kernel
theorem dX5_order_75 : decode cX5_order 75 = .ok (.iload_n 1, 1) := by decide +kernel
theorem dX5_order_76 : decode cX5_order 76 = .ok (.if_icmp .ne 5, 3) := by decide +kernel
theorem dX5_order_79 : decode cX5_order 79 = .ok (.iload_n 2, 1) := by decide +kernel
theorem dX5_order_80 : decode cX5_order 80 = .ok (.ireturn, 1) := by decide +kernel
theorem dX5_order_81 : decode cX5_order 81 = .ok (.iinc 2 1, 3) := by decide +kernel
theorem dX5_order_84 : decode cX5_order 84 = .ok (.goto (-56), 3) := by decide +kernel
theorem dX5_order_87 : decode cX5_order 87 = .ok (.iconst (-1), 1) := by decide +kernel
theorem dX5_order_88 : decode cX5_order 88 = .ok (.ireturn, 1) := by decide +kernel
theorem dX5_init_0 : decode cX5_init 0 = .ok (.aload_n 0, 1) := by decide +kernel
theorem dX5_init_1 : decode cX5_init 1 = .ok (.invokespecial 1, 3) := by decide +kernel
theorem dX5_init_4 : decode cX5_init 4 = .ok (.aload_n 0, 1) := by decide +kernel
theorem dX5_init_5 : decode cX5_init 5 = .ok (.sipush 256, 3) := by decide +kernel
theorem dX5_init_8 : decode cX5_init 8 = .ok (.newarray .int, 2) := by decide +kernel
theorem dX5_init_10 : decode cX5_init 10 = .ok (.putfield 7, 3) := by decide +kernel
theorem dX5_init_13 : decode cX5_init 13 = .ok (.aload_n 0, 1) := by decide +kernel
theorem dX5_init_14 : decode cX5_init 14 = .ok (.sipush 256, 3) := by decide +kernel
theorem dX5_init_17 : decode cX5_init 17 = .ok (.newarray .int, 2) := by decide +kernel
theorem dX5_init_19 : decode cX5_init 19 = .ok (.putfield 13, 3) := by decide +kernel
theorem dX5_init_22 : decode cX5_init 22 = .ok (.aload_n 0, 1) := by decide +kernel
theorem dX5_init_23 : decode cX5_init 23 = .ok (.sipush 256, 3) := by decide +kernel
theorem dX5_init_26 : decode cX5_init 26 = .ok (.newarray .int, 2) := by decide +kernel
theorem dX5_init_28 : decode cX5_init 28 = .ok (.putfield 16, 3) := by decide +kernel
theorem dX5_init_31 : decode cX5_init 31 = .ok (.aload_n 0, 1) := by decide +kernel
theorem dX5_init_32 : decode cX5_init 32 = .ok (.bipush 40, 2) := by decide +kernel
theorem dX5_init_34 : decode cX5_init 34 = .ok (.newarray .long, 2) := by decide +kernel
theorem dX5_init_36 : decode cX5_init 36 = .ok (.putfield 19, 3) := by decide +kernel
theorem dX5_init_39 : decode cX5_init 39 = .ok (.aload_n 0, 1) := by decide +kernel
theorem dX5_init_40 : decode cX5_init 40 = .ok (.bipush 40, 2) := by decide +kernel
theorem dX5_init_42 : decode cX5_init 42 = .ok (.newarray .int, 2) := by decide +kernel
theorem dX5_init_44 : decode cX5_init 44 = .ok (.putfield 23, 3) := by decide +kernel
theorem dX5_init_47 : decode cX5_init 47 = .ok (.aload_n 0, 1) := by decide +kernel
theorem dX5_init_48 : decode cX5_init 48 = .ok (.sipush 10240, 3) := by decide +kernel
theorem dX5_init_51 : decode cX5_init 51 = .ok (.newarray .int, 2) := by decide +kernel
theorem dX5_init_53 : decode cX5_init 53 = .ok (.putfield 26, 3) := by decide +kernel
theorem dX5_init_56 : decode cX5_init 56 = .ok (.return_, 1) := by decide +kernel
set_option maxHeartbeats 4000000 in
set_option maxRecDepth 100000 in
theorem lp_odi {p : Program} {l : Launch} {e : Env} {s : State} {m : MethodId} {below : List Frame} {meth : Method} {c : Code} (dC : Nat → ClassId) (dI : Nat → Nat → Nat) (st : Nat) {A : Nat → Prop} (q : Nat) (tx : Nat) (mz : Nat) (fl : Int32) (it : Bool) (al : Int64) (pt : Nat) (dg : Nat) (ot : Nat) (wr : Nat) (kz : Nat) (ka : Nat) (kd : Nat) (kp : Nat) (ma : Nat) (wg : Bool) (th : Int32) (c4 : ClassId) (KA : Nat → Int64) (c5 : ClassId) (KD : Nat → Int32) (c6 : ClassId) (KP : Nat → Int32) (p1 : Int32) (hkz : kz ≤ 40) (hkd : ∀ j, j < kz → ∃ q : Nat, KD j = nI q ∧ q ≤ 250) (i : Nat) (hi : i < kz) (T : Int32) (H : Heap) (locs : List Loc) (Cx : kc_Cx yX5_order cX5_order (some .int) 5 wsX5_order p s m ([.ref q, .int p1] : List Value).toArray meth c) (hA : ∀ q, s.heap.size ≤ q → A q) (hG : kg st A s) (hK : va_K (dC, dI) kcl [(c4, .long), (c5, .int), (c6, .int)] s) :
    ∀ (N : Nat) (j : Nat) (xa : Int32) (hj : j ≤ kz) (hN : kz ≤ j + N) (hc : ∀ ls : Array Slot, lv_has ls 5 [(0, .ref q), (1, .int p1), (2, .int (nI i)), (3, .int (cntL KA KD KP kz i N j xa))] → W p l e ({ frames := 1, cells := 0, slots := 0, locals := 23 }) s m ([.ref q, .int p1] : List Value).toArray below meth c H locs 0 0 (MQ below (kc_Qi (dC, dI) kcl T [(q, .inr (5, [.int th, .ref tx, .int (nI mz), .int fl, .int (bI it), .long al, .ref pt, .int (nI dg), .ref ot, .int (nI wr), .int (nI kz), .ref ka, .ref kd, .ref kp, .int (nI ma), .int (bI wg)])), (ka, .inl (c4, 40, .inr (.inl KA))), (kd, .inl (c5, 40, .inl KD)), (kp, .inl (c6, 10240, .inl KP))] A) ([.ref q, .int p1] : List Value).toArray s 0 0 A) (F0 m 74 ls [])) (ls : Array Slot), va_P (dC, dI) kcl [(q, .inr (5, [.int th, .ref tx, .int (nI mz), .int fl, .int (bI it), .long al, .ref pt, .int (nI dg), .ref ot, .int (nI wr), .int (nI kz), .ref ka, .ref kd, .ref kp, .int (nI ma), .int (bI wg)])), (ka, .inl (c4, 40, .inr (.inl KA))), (kd, .inl (c5, 40, .inl KD)), (kp, .inl (c6, 10240, .inl KP))] H → va_D A [(q, .inr (5, [.int th, .ref tx, .int (nI mz), .int fl, .int (bI it), .long al, .ref pt, .int (nI dg), .ref ot, .int (nI wr), .int (nI kz), .ref ka, .ref kd, .ref kp, .int (nI ma), .int (bI wg)])), (ka, .inl (c4, 40, .inr (.inl KA))), (kd, .inl (c5, 40, .inl KD)), (kp, .inl (c6, 10240, .inl KP))] → va_S A s.heap H locs → lv_has ls 5 [(0, .ref q), (1, .int p1), (2, .int (nI i)), (3, .int xa), (4, .int (nI j))] → W p l e ({ frames := 1, cells := 0, slots := 0, locals := 23 }) s m ([.ref q, .int p1] : List Value).toArray below meth c H locs 0 0 (MQ below (kc_Qi (dC, dI) kcl T [(q, .inr (5, [.int th, .ref tx, .int (nI mz), .int fl, .int (bI it), .long al, .ref pt, .int (nI dg), .ref ot, .int (nI wr), .int (nI kz), .ref ka, .ref kd, .ref kp, .int (nI ma), .int (bI wg)])), (ka, .inl (c4, 40, .inr (.inl KA))), (kd, .inl (c5, 40, .inl KD)), (kp, .inl (c6, 10240, .inl KP))] A) ([.ref q, .int p1] : List Value).toArray s 0 0 A) (F0 m 41 ls []) := by
  obtain ⟨hx, hb, hr, hml, hown, hts, hlocks, hnm⟩ := id Cx
  intro N
  induction N with
  | zero =>
    intro j xa hj hN hc ls hP hD hS hl
    refine lv_iload hx hb dX5_order_41 (lv_at hl 4 rfl) ?_
    refine lv_aload_n hx hb dX5_order_43 rfl (lv_at hl 0 rfl) ?_
    refine va_get (D := (dC, dI)) (ci := 5) (v := .int (nI kz)) (C := RX5) (T := TX5) (N := 16) hx hb hts kin_5 hown hK hP 0 rfl rfl 10 (by decide) (hts _ (kcm kwm_290)) (fun _ h9 => h9) rfl dX5_order_44 ?_
    refine lv_icmp_ge (tgt := 74) hx hb dX5_order_47 (by decide) (fun c_47 => ?_) (fun c_47 => ?_)
    · exact hc ls (lv_sub hl [0, 1, 2, 3] rfl)
    · exact absurd (nI_le (show kz ≤ j by omega) (by omega)) c_47
  | succ N ih =>
    intro j xa hj hN hc ls hP hD hS hl
    refine lv_iload hx hb dX5_order_41 (lv_at hl 4 rfl) ?_
    refine lv_aload_n hx hb dX5_order_43 rfl (lv_at hl 0 rfl) ?_
    refine va_get (D := (dC, dI)) (ci := 5) (v := .int (nI kz)) (C := RX5) (T := TX5) (N := 16) hx hb hts kin_5 hown hK hP 0 rfl rfl 10 (by decide) (hts _ (kcm kwm_290)) (fun _ h9 => h9) rfl dX5_order_44 ?_
    refine lv_icmp_ge (tgt := 74) hx hb dX5_order_47 (by decide) (fun c_47 => ?_) (fun c_47 => ?_)
    · exact hc ls (by rw [cntL_e (show kz ≤ j by have := kb_ge c_47 (by omega); omega)]; exact lv_sub hl [0, 1, 2, 3] rfl)
    · have hlt : j < kz := kb_lt c_47 (by omega)
      have hlt9 : ¬ kz ≤ j := by omega
      obtain ⟨lj, hlj, hlj2⟩ := hkd j hlt
      have hj1 : KD j = nI (KD j).toNatClampNeg := by rw [hlj, nI_clamp (by omega)]
      have hj2 : (KD j).toNatClampNeg ≤ 250 := by rw [hlj, nI_clamp (by omega)]; exact hlj2
      obtain ⟨lx, hlx, hlx2⟩ := hkd i hi
      have hi1 : KD i = nI (KD i).toNatClampNeg := by rw [hlx, nI_clamp (by omega)]
      have hi2 : (KD i).toNatClampNeg ≤ 250 := by rw [hlx, nI_clamp (by omega)]; exact hlx2
      refine lv_iload_n hx hb dX5_order_50 rfl (lv_at hl 3 rfl) ?_
      refine lv_aload_n hx hb dX5_order_51 rfl (lv_at hl 0 rfl) ?_
      refine lv_iload hx hb dX5_order_52 (lv_at hl 4 rfl) ?_
      refine lv_iload_n hx hb dX5_order_54 rfl (lv_at hl 2 rfl) ?_
      have hPc := hP.sub (ws' := [(q, .inr (5, [.int th, .ref tx, .int (nI mz), .int fl, .int (bI it), .long al, .ref pt, .int (nI dg), .ref ot, .int (nI wr), .int (nI kz), .ref ka, .ref kd, .ref kp, .int (nI ma), .int (bI wg)])), (ka, .inl (c4, 40, .inr (.inl KA))), (kd, .inl (c5, 40, .inl KD)), (kp, .inl (c6, 10240, .inl KP))]) [0, 1, 2, 3] rfl
      have hDc := hD.sub (ws' := [(q, .inr (5, [.int th, .ref tx, .int (nI mz), .int fl, .int (bI it), .long al, .ref pt, .int (nI dg), .ref ot, .int (nI wr), .int (nI kz), .ref ka, .ref kd, .ref kp, .int (nI ma), .int (bI wg)])), (ka, .inl (c4, 40, .inr (.inl KA))), (kd, .inl (c5, 40, .inl KD)), (kp, .inl (c6, 10240, .inl KP))]) [0, 1, 2, 3] (by decide) rfl
      have hKc := hK.sub (tys' := [(c4, .long), (c5, .int), (c6, .int)]) [0, 1, 2] rfl
      have hFc := va_free (wc := [(q, .inr (5, [.int th, .ref tx, .int (nI mz), .int fl, .int (bI it), .long al, .ref pt, .int (nI dg), .ref ot, .int (nI wr), .int (nI kz), .ref ka, .ref kd, .ref kp, .int (nI ma), .int (bI wg)])), (ka, .inl (c4, 40, .inr (.inl KA))), (kd, .inl (c5, 40, .inl KD)), (kp, .inl (c6, 10240, .inl KP))]) hD hS hA [0, 1, 2, 3] rfl
      refine kc_callSi (val := bI (mBef KA KP j i (KD j).toNatClampNeg (KD i).toNatClampNeg)) (va_runV (As := [.int (nI j), .int (nI i)]) (rest := [.int xa]) ⟨hx, hb, hml, hown, hts⟩ (m_isBefore l dC dI st H.size q th tx mz fl it al pt dg ot wr kz ka kd kp ma wg c4 KA c5 KD c6 KP j i (KD j).toNatClampNeg (KD i).toNatClampNeg (by omega) (by omega) hj1 hi1 hj2 hi2) (cwV 2 hts (kwV kwm_299 kwm_300 kwm_301 kwm_203 kwm_298) rfl rfl rfl (by decide +kernel) ⟨Nat.le_of_ble_eq_true rfl, Nat.le_of_ble_eq_true rfl⟩) ⟨kc_blind, va_recv hKc hPc (ci := 5) (q0 := 0) rfl rfl, kc_pre hG hS hFc hKc hPc hDc⟩ rfl rfl hl.1 rfl (lv_room (Nat.le_of_ble_eq_true rfl)) dX5_order_55 ⟨Nat.le_of_ble_eq_true rfl, Nat.le_of_ble_eq_true rfl⟩) ?_
      refine lv_if_eq (tgt := 65) hx hb dX5_order_58 (by decide) (fun c_58 => ?_) (fun c_58 => ?_)
      · refine lv_iconst (v := 0) hx hb dX5_order_65 (by decide) ?_
        refine lv_iadd hx hb dX5_order_66 ?_
        refine lv_istore_n (lv' := [(3, .int (xa + 0)), (0, .ref q), (1, .int p1), (2, .int (nI i)), (4, .int (nI j))]) hx hb dX5_order_67 rfl hl (by decide) rfl (fun ls hl => ?_)
        refine lv_iinc (v := (nI j) + 1) (lv' := [(4, .int ((nI j) + 1)), (3, .int (xa + 0)), (0, .ref q), (1, .int p1), (2, .int (nI i))]) hx hb dX5_order_68 hl (k := 4) rfl (congrArg (fun z => (nI j) + z) (show Int32.ofInt (1) = (1 : Int32) by decide)) (by decide) rfl (fun ls hl => ?_)
        refine lv_goto (tgt := 41) hx hb dX5_order_71 (by decide) ?_
        rw [nI_1] at hl
        exact ih (j + 1) _ (by omega) (by omega) (fun ls hl9 => hc ls (by rw [cntL_s0 hlt9 c_58]; exact hl9)) ls hP hD hS (lv_sub hl [2, 3, 4, 1, 0] rfl)
      · refine lv_iconst (v := 1) hx hb dX5_order_61 (by decide) ?_
        refine lv_goto (tgt := 66) hx hb dX5_order_62 (by decide) ?_
        refine lv_iadd hx hb dX5_order_66 ?_
        refine lv_istore_n (lv' := [(3, .int (xa + 1)), (0, .ref q), (1, .int p1), (2, .int (nI i)), (4, .int (nI j))]) hx hb dX5_order_67 rfl hl (by decide) rfl (fun ls hl => ?_)
        refine lv_iinc (v := (nI j) + 1) (lv' := [(4, .int ((nI j) + 1)), (3, .int (xa + 1)), (0, .ref q), (1, .int p1), (2, .int (nI i))]) hx hb dX5_order_68 hl (k := 4) rfl (congrArg (fun z => (nI j) + z) (show Int32.ofInt (1) = (1 : Int32) by decide)) (by decide) rfl (fun ls hl => ?_)
        refine lv_goto (tgt := 41) hx hb dX5_order_71 (by decide) ?_
        rw [nI_1] at hl
        exact ih (j + 1) _ (by omega) (by omega) (fun ls hl9 => hc ls (by rw [cntL_s1 hlt9 c_58]; exact hl9)) ls hP hD hS (lv_sub hl [2, 3, 4, 1, 0] rfl)
set_option maxHeartbeats 4000000 in
set_option maxRecDepth 100000 in
theorem lp_odm {p : Program} {l : Launch} {e : Env} {s : State} {m : MethodId} {below : List Frame} {meth : Method} {c : Code} (dC : Nat → ClassId) (dI : Nat → Nat → Nat) (st : Nat) {A : Nat → Prop} (q : Nat) (tx : Nat) (mz : Nat) (fl : Int32) (it : Bool) (al : Int64) (pt : Nat) (dg : Nat) (ot : Nat) (wr : Nat) (kz : Nat) (ka : Nat) (kd : Nat) (kp : Nat) (ma : Nat) (wg : Bool) (th : Int32) (c4 : ClassId) (KA : Nat → Int64) (c5 : ClassId) (KD : Nat → Int32) (c6 : ClassId) (KP : Nat → Int32) (p1 : Int32) (T : Int32) (hkz : kz ≤ 40) (hkd : ∀ j, j < kz → ∃ q : Nat, KD j = nI q ∧ q ≤ 250) (Cx : kc_Cx yX5_order cX5_order (some .int) 5 wsX5_order p s m ([.ref q, .int p1] : List Value).toArray meth c) (hA : ∀ q, s.heap.size ≤ q → A q) (hG : kg st A s) (hK : va_K (dC, dI) kcl [(c4, .long), (c5, .int), (c6, .int)] s) :
    ∀ (N : Nat) (i : Nat) (hi : i ≤ kz) (hN : kz ≤ i + N) (hT : moLp KA KD KP kz p1 N i = T) (H : Heap) (locs : List Loc) (ls : Array Slot), va_P (dC, dI) kcl [(q, .inr (5, [.int th, .ref tx, .int (nI mz), .int fl, .int (bI it), .long al, .ref pt, .int (nI dg), .ref ot, .int (nI wr), .int (nI kz), .ref ka, .ref kd, .ref kp, .int (nI ma), .int (bI wg)])), (ka, .inl (c4, 40, .inr (.inl KA))), (kd, .inl (c5, 40, .inl KD)), (kp, .inl (c6, 10240, .inl KP))] H → va_D A [(q, .inr (5, [.int th, .ref tx, .int (nI mz), .int fl, .int (bI it), .long al, .ref pt, .int (nI dg), .ref ot, .int (nI wr), .int (nI kz), .ref ka, .ref kd, .ref kp, .int (nI ma), .int (bI wg)])), (ka, .inl (c4, 40, .inr (.inl KA))), (kd, .inl (c5, 40, .inl KD)), (kp, .inl (c6, 10240, .inl KP))] → va_S A s.heap H locs → lv_has ls 5 [(0, .ref q), (1, .int p1), (2, .int (nI i))] → W p l e ({ frames := 1, cells := 0, slots := 0, locals := 23 }) s m ([.ref q, .int p1] : List Value).toArray below meth c H locs 0 0 (MQ below (kc_Qi (dC, dI) kcl T [(q, .inr (5, [.int th, .ref tx, .int (nI mz), .int fl, .int (bI it), .long al, .ref pt, .int (nI dg), .ref ot, .int (nI wr), .int (nI kz), .ref ka, .ref kd, .ref kp, .int (nI ma), .int (bI wg)])), (ka, .inl (c4, 40, .inr (.inl KA))), (kd, .inl (c5, 40, .inl KD)), (kp, .inl (c6, 10240, .inl KP))] A) ([.ref q, .int p1] : List Value).toArray s 0 0 A) (F0 m 28 ls []) := by
  obtain ⟨hx, hb, hr, hml, hown, hts, hlocks, hnm⟩ := id Cx
  intro N
  induction N with
  | zero =>
    intro i hi hN hT H locs ls hP hD hS hl
    refine lv_iload_n hx hb dX5_order_28 rfl (lv_at hl 2 rfl) ?_
    refine lv_aload_n hx hb dX5_order_29 rfl (lv_at hl 0 rfl) ?_
    refine va_get (D := (dC, dI)) (ci := 5) (v := .int (nI kz)) (C := RX5) (T := TX5) (N := 16) hx hb hts kin_5 hown hK hP 0 rfl rfl 10 (by decide) (hts _ (kcm kwm_290)) (fun _ h9 => h9) rfl dX5_order_30 ?_
    refine lv_icmp_ge (tgt := 87) hx hb dX5_order_33 (by decide) (fun c_33 => ?_) (fun c_33 => ?_)
    · refine lv_iconst (v := (-1)) hx hb dX5_order_87 (by decide) ?_
      have hT : (-1 : Int32) = T := hT
      have hP9 : va_P (dC, dI) kcl [(q, .inr (5, [.int th, .ref tx, .int (nI mz), .int fl, .int (bI it), .long al, .ref pt, .int (nI dg), .ref ot, .int (nI wr), .int (nI kz), .ref ka, .ref kd, .ref kp, .int (nI ma), .int (bI wg)])), (ka, .inl (c4, 40, .inr (.inl KA))), (kd, .inl (c5, 40, .inl KD)), (kp, .inl (c6, 10240, .inl KP))] H := by
        try rw [← hT]
        exact hP.sub [0, 1, 2, 3] rfl
      have hD9 : va_D A [(q, .inr (5, [.int th, .ref tx, .int (nI mz), .int fl, .int (bI it), .long al, .ref pt, .int (nI dg), .ref ot, .int (nI wr), .int (nI kz), .ref ka, .ref kd, .ref kp, .int (nI ma), .int (bI wg)])), (ka, .inl (c4, 40, .inr (.inl KA))), (kd, .inl (c5, 40, .inl KD)), (kp, .inl (c6, 10240, .inl KP))] := by
        try rw [← hT]
        exact hD.sub [0, 1, 2, 3] (by decide) rfl
      have hv9 : ((-1) : Int32) = T := by
        try rw [← hT]
        try rfl
      exact kc_iret hx hb hr hlocks hv9 hP9 hD9 hS dX5_order_88
    · exact absurd (nI_le (show kz ≤ i by omega) (by omega)) c_33
  | succ N ih =>
    intro i hi hN hT H locs ls hP hD hS hl
    refine lv_iload_n hx hb dX5_order_28 rfl (lv_at hl 2 rfl) ?_
    refine lv_aload_n hx hb dX5_order_29 rfl (lv_at hl 0 rfl) ?_
    refine va_get (D := (dC, dI)) (ci := 5) (v := .int (nI kz)) (C := RX5) (T := TX5) (N := 16) hx hb hts kin_5 hown hK hP 0 rfl rfl 10 (by decide) (hts _ (kcm kwm_290)) (fun _ h9 => h9) rfl dX5_order_30 ?_
    refine lv_icmp_ge (tgt := 87) hx hb dX5_order_33 (by decide) (fun c_33 => ?_) (fun c_33 => ?_)
    · refine lv_iconst (v := (-1)) hx hb dX5_order_87 (by decide) ?_
      have hT : (-1 : Int32) = T := by rw [← hT]; exact (if_pos (show kz ≤ i by have := kb_ge c_33 (by omega); omega)).symm
      have hP9 : va_P (dC, dI) kcl [(q, .inr (5, [.int th, .ref tx, .int (nI mz), .int fl, .int (bI it), .long al, .ref pt, .int (nI dg), .ref ot, .int (nI wr), .int (nI kz), .ref ka, .ref kd, .ref kp, .int (nI ma), .int (bI wg)])), (ka, .inl (c4, 40, .inr (.inl KA))), (kd, .inl (c5, 40, .inl KD)), (kp, .inl (c6, 10240, .inl KP))] H := by
        try rw [← hT]
        exact hP.sub [0, 1, 2, 3] rfl
      have hD9 : va_D A [(q, .inr (5, [.int th, .ref tx, .int (nI mz), .int fl, .int (bI it), .long al, .ref pt, .int (nI dg), .ref ot, .int (nI wr), .int (nI kz), .ref ka, .ref kd, .ref kp, .int (nI ma), .int (bI wg)])), (ka, .inl (c4, 40, .inr (.inl KA))), (kd, .inl (c5, 40, .inl KD)), (kp, .inl (c6, 10240, .inl KP))] := by
        try rw [← hT]
        exact hD.sub [0, 1, 2, 3] (by decide) rfl
      have hv9 : ((-1) : Int32) = T := by
        try rw [← hT]
        try rfl
      exact kc_iret hx hb hr hlocks hv9 hP9 hD9 hS dX5_order_88
    · refine lv_iconst (v := 0) hx hb dX5_order_36 (by decide) ?_
      refine lv_istore_n (lv' := [(3, .int 0), (0, .ref q), (1, .int p1), (2, .int (nI i))]) hx hb dX5_order_37 rfl hl (by decide) rfl (fun ls hl => ?_)
      refine lv_iconst (v := 0) hx hb dX5_order_38 (by decide) ?_
      refine lv_istore (lv' := [(4, .int 0), (3, .int 0), (0, .ref q), (1, .int p1), (2, .int (nI i))]) hx hb dX5_order_39 hl (by decide) rfl (fun ls hl => ?_)
      have hlt : i < kz := kb_lt c_33 (by omega)
      have hlt9 : ¬ kz ≤ i := by omega
      rw [← nI_0] at hl
      refine lp_odi dC dI st q tx mz fl it al pt dg ot wr kz ka kd kp ma wg th c4 KA c5 KD c6 KP p1 hkz hkd i hlt T H locs Cx hA hG hK kz 0 (nI 0) (Nat.zero_le _) (by omega) (fun ls hl => ?_) ls hP hD hS (lv_sub hl [2, 3, 4, 1, 0] rfl)
      refine lv_iload_n hx hb dX5_order_74 rfl (lv_at hl 3 rfl) ?_
      refine lv_iload_n hx hb dX5_order_75 rfl (lv_at hl 1 rfl) ?_
      refine lv_icmp_ne (tgt := 81) hx hb dX5_order_76 (by decide) (fun c_76 => ?_) (fun c_76 => ?_)
      · refine lv_iinc (v := (nI i) + 1) (lv' := [(2, .int ((nI i) + 1)), (0, .ref q), (1, .int p1), (3, .int (cntL KA KD KP kz i kz 0 (nI 0)))]) hx hb dX5_order_81 hl (k := 2) rfl (congrArg (fun z => (nI i) + z) (show Int32.ofInt (1) = (1 : Int32) by decide)) (by decide) rfl (fun ls hl => ?_)
        refine lv_goto (tgt := 28) hx hb dX5_order_84 (by decide) ?_
        rw [nI_1] at hl
        exact ih (i + 1) (by omega) (by omega) (by rw [← hT]; exact ((if_neg hlt9).trans (if_neg c_76)).symm) H locs ls hP hD hS (lv_sub hl [1, 2, 0] rfl)
      · refine lv_iload_n hx hb dX5_order_79 rfl (lv_at hl 2 rfl) ?_
        have hT : nI i = T := by rw [← hT]; exact ((if_neg hlt9).trans (if_pos c_76)).symm
        have hP9 : va_P (dC, dI) kcl [(q, .inr (5, [.int th, .ref tx, .int (nI mz), .int fl, .int (bI it), .long al, .ref pt, .int (nI dg), .ref ot, .int (nI wr), .int (nI kz), .ref ka, .ref kd, .ref kp, .int (nI ma), .int (bI wg)])), (ka, .inl (c4, 40, .inr (.inl KA))), (kd, .inl (c5, 40, .inl KD)), (kp, .inl (c6, 10240, .inl KP))] H := by
          try rw [← hT]
          exact hP.sub [0, 1, 2, 3] rfl
        have hD9 : va_D A [(q, .inr (5, [.int th, .ref tx, .int (nI mz), .int fl, .int (bI it), .long al, .ref pt, .int (nI dg), .ref ot, .int (nI wr), .int (nI kz), .ref ka, .ref kd, .ref kp, .int (nI ma), .int (bI wg)])), (ka, .inl (c4, 40, .inr (.inl KA))), (kd, .inl (c5, 40, .inl KD)), (kp, .inl (c6, 10240, .inl KP))] := by
          try rw [← hT]
          exact hD.sub [0, 1, 2, 3] (by decide) rfl
        have hv9 : nI i = T := by
          try rw [← hT]
          try rfl
        exact kc_iret hx hb hr hlocks hv9 hP9 hD9 hS dX5_order_80
def mOrd (kz : Nat) (KA : Nat → Int64) (KD KP : Nat → Int32) (p1 : Int32) : Int32 × Int32 :=
  if (bI (mKept kz p1)) = 0 then
    (0, 1)
  else
    (moLp KA KD KP kz p1 kz 0, 0)
set_option maxHeartbeats 4000000 in
set_option maxRecDepth 100000 in
theorem m_order (l : Launch) (dC : Nat → ClassId) (dI : Nat → Nat → Nat) (st sz : Nat) (q : Nat) (th : Int32) (tx : Nat) (mz : Nat) (fl : Int32) (it : Bool) (al : Int64) (pt : Nat) (dg : Nat) (ot : Nat) (wr : Nat) (kz : Nat) (ka : Nat) (kd : Nat) (kp : Nat) (ma : Nat) (wg : Bool) (c4 : ClassId) (KA : Nat → Int64) (c5 : ClassId) (KD : Nat → Int32) (c6 : ClassId) (KP : Nat → Int32) (p1 : Int32) (hkz : kz ≤ 40) (hkd : ∀ j, j < kz → ∃ q : Nat, KD j = nI q ∧ q ≤ 250) : Met l yX5_order wsX5_order ({ frames := 1, cells := 0, slots := 0, locals := 23 }) (kc_Pc (dC, dI) kcl st sz [.ref q, .int p1] [(q, .inr (5, [.int th, .ref tx, .int (nI mz), .int fl, .int (bI it), .long al, .ref pt, .int (nI dg), .ref ot, .int (nI wr), .int (nI kz), .ref ka, .ref kd, .ref kp, .int (nI ma), .int (bI wg)])), (ka, .inl (c4, 40, .inr (.inl KA))), (kd, .inl (c5, 40, .inl KD)), (kp, .inl (c6, 10240, .inl KP))] [(c4, .long), (c5, .int), (c6, .int)]) (kc_Qi (dC, dI) kcl (mOrd kz KA KD KP p1).1 [(q, .inr (5, [.int (mOrd kz KA KD KP p1).2, .ref tx, .int (nI mz), .int fl, .int (bI it), .long al, .ref pt, .int (nI dg), .ref ot, .int (nI wr), .int (nI kz), .ref ka, .ref kd, .ref kp, .int (nI ma), .int (bI wg)])), (ka, .inl (c4, 40, .inr (.inl KA))), (kd, .inl (c5, 40, .inl KD)), (kp, .inl (c6, 10240, .inl KP))] (va_A [(q, .inr (5, [.int th, .ref tx, .int (nI mz), .int fl, .int (bI it), .long al, .ref pt, .int (nI dg), .ref ot, .int (nI wr), .int (nI kz), .ref ka, .ref kd, .ref kp, .int (nI ma), .int (bI wg)])), (ka, .inl (c4, 40, .inr (.inl KA))), (kd, .inl (c5, 40, .inl KD)), (kp, .inl (c6, 10240, .inl KP))] sz)) 0 0 (va_A [(q, .inr (5, [.int th, .ref tx, .int (nI mz), .int fl, .int (bI it), .long al, .ref pt, .int (nI dg), .ref ot, .int (nI wr), .int (nI kz), .ref ka, .ref kd, .ref kp, .int (nI ma), .int (bI wg)])), (ka, .inl (c4, 40, .inr (.inl KA))), (kd, .inl (c5, 40, .inl KD)), (kp, .inl (c6, 10240, .inl KP))] sz) := by
  refine kc_ofW (Qc := fun A => (kc_Qi (dC, dI) kcl (mOrd kz KA KD KP p1).1 [(q, .inr (5, [.int (mOrd kz KA KD KP p1).2, .ref tx, .int (nI mz), .int fl, .int (bI it), .long al, .ref pt, .int (nI dg), .ref ot, .int (nI wr), .int (nI kz), .ref ka, .ref kd, .ref kp, .int (nI ma), .int (bI wg)])), (ka, .inl (c4, 40, .inr (.inl KA))), (kd, .inl (c5, 40, .inl KD)), (kp, .inl (c6, 10240, .inl KP))] A)) (cc := cX5_order) (maxL := 5) (ret := (some .int)) (by decide) rfl (Nat.le_of_ble_eq_true rfl) ?_
  intro p e s m below meth c A ls Cx hA hG hK hP hD hS hl
  obtain ⟨hx, hb, hr, hml, hown, hts, hlocks, hnm⟩ := id Cx
  have hl : lv_has ls 5 [(0, .ref q), (1, .int p1)] := hl
  refine lv_aload_n hx hb dX5_order_0 rfl (lv_at hl 0 rfl) ?_
  refine lv_aload_n hx hb dX5_order_1 rfl (lv_at hl 0 rfl) ?_
  refine lv_iload_n hx hb dX5_order_2 rfl (lv_at hl 1 rfl) ?_
  have hPc := hP.sub (ws' := [(q, .inr (5, [.int th, .ref tx, .int (nI mz), .int fl, .int (bI it), .long al, .ref pt, .int (nI dg), .ref ot, .int (nI wr), .int (nI kz), .ref ka, .ref kd, .ref kp, .int (nI ma), .int (bI wg)]))]) [0] rfl
  have hDc := hD.sub (ws' := [(q, .inr (5, [.int th, .ref tx, .int (nI mz), .int fl, .int (bI it), .long al, .ref pt, .int (nI dg), .ref ot, .int (nI wr), .int (nI kz), .ref ka, .ref kd, .ref kp, .int (nI ma), .int (bI wg)]))]) [0] (by decide) rfl
  have hKc := hK.sub (tys' := []) [] rfl
  have hFc := va_free (wc := [(q, .inr (5, [.int th, .ref tx, .int (nI mz), .int fl, .int (bI it), .long al, .ref pt, .int (nI dg), .ref ot, .int (nI wr), .int (nI kz), .ref ka, .ref kd, .ref kp, .int (nI ma), .int (bI wg)]))]) hD hS hA [0] rfl
  refine kc_callSi (val := bI (mKept kz p1)) (va_runV (As := [.int p1]) (rest := [.ref q]) ⟨hx, hb, hml, hown, hts⟩ (m_isKept l dC dI st s.heap.size q th tx mz fl it al pt dg ot wr kz ka kd kp ma wg p1 ) (cwV 1 hts (kwV kwm_292 kwm_293 kwm_294 kwm_203 kwm_291) rfl rfl rfl (by decide +kernel) ⟨Nat.le_of_ble_eq_true rfl, Nat.le_of_ble_eq_true rfl⟩) ⟨kc_blind, va_recv hKc hPc (ci := 5) (q0 := 0) rfl rfl, kc_pre hG hS hFc hKc hPc hDc⟩ rfl rfl hl.1 rfl (lv_room (Nat.le_of_ble_eq_true rfl)) dX5_order_3 ⟨Nat.le_of_ble_eq_true rfl, Nat.le_of_ble_eq_true rfl⟩) ?_
  refine lv_if_eq (tgt := 13) hx hb dX5_order_6 (by decide) (fun c_6 => ?_) (fun c_6 => ?_)
  · refine lv_iconst (v := 1) hx hb dX5_order_13 (by decide) ?_
    refine va_put (D := (dC, dI)) (ci := 5) (v := .int 1) (ty := .int) (C := RX5) (T := TX5) (N := 16) hx hb hts kin_5 tyX5 tyX5_ok nmX5 hown hK hP hD hS 0 rfl rfl 0 (by decide) (hts _ (kcm kwm_204)) (fun _ h9 => h9) rfl (by decide +kernel) rfl rfl (Nat.le_of_ble_eq_true rfl) dX5_order_14 (fun H locs hP hD hS => ?_)
    have hP : va_P (dC, dI) kcl [(q, .inr (5, [.int 1, .ref tx, .int (nI mz), .int fl, .int (bI it), .long al, .ref pt, .int (nI dg), .ref ot, .int (nI wr), .int (nI kz), .ref ka, .ref kd, .ref kp, .int (nI ma), .int (bI wg)])), (ka, .inl (c4, 40, .inr (.inl KA))), (kd, .inl (c5, 40, .inl KD)), (kp, .inl (c6, 10240, .inl KP))] H := hP
    have hD : va_D A [(q, .inr (5, [.int 1, .ref tx, .int (nI mz), .int fl, .int (bI it), .long al, .ref pt, .int (nI dg), .ref ot, .int (nI wr), .int (nI kz), .ref ka, .ref kd, .ref kp, .int (nI ma), .int (bI wg)])), (ka, .inl (c4, 40, .inr (.inl KA))), (kd, .inl (c5, 40, .inl KD)), (kp, .inl (c6, 10240, .inl KP))] := hD
    refine lv_aload_n hx hb dX5_order_17 rfl (lv_at hl 0 rfl) ?_
    refine va_get (D := (dC, dI)) (ci := 5) (v := .int 1) (C := RX5) (T := TX5) (N := 16) hx hb hts kin_5 hown hK hP 0 rfl rfl 0 (by decide) (hts _ (kcm kwm_204)) (fun _ h9 => h9) rfl dX5_order_18 ?_
    refine lv_if_le (tgt := 26) hx hb dX5_order_21 (by decide) (fun c_21 => ?_) (fun c_21 => ?_)
    · exact absurd c_21 (by decide)
    · refine lv_iconst (v := 0) hx hb dX5_order_24 (by decide) ?_
      have hF9 : mOrd kz KA KD KP p1 = (0, 1) := by
        first | (simp only [mOrd, if_pos c_6]; done) | rfl
      have hP9 : va_P (dC, dI) kcl [(q, .inr (5, [.int (mOrd kz KA KD KP p1).2, .ref tx, .int (nI mz), .int fl, .int (bI it), .long al, .ref pt, .int (nI dg), .ref ot, .int (nI wr), .int (nI kz), .ref ka, .ref kd, .ref kp, .int (nI ma), .int (bI wg)])), (ka, .inl (c4, 40, .inr (.inl KA))), (kd, .inl (c5, 40, .inl KD)), (kp, .inl (c6, 10240, .inl KP))] H := by
        try rw [hF9]
        exact hP.sub [0, 1, 2, 3] rfl
      have hD9 : va_D A [(q, .inr (5, [.int (mOrd kz KA KD KP p1).2, .ref tx, .int (nI mz), .int fl, .int (bI it), .long al, .ref pt, .int (nI dg), .ref ot, .int (nI wr), .int (nI kz), .ref ka, .ref kd, .ref kp, .int (nI ma), .int (bI wg)])), (ka, .inl (c4, 40, .inr (.inl KA))), (kd, .inl (c5, 40, .inl KD)), (kp, .inl (c6, 10240, .inl KP))] := by
        try rw [hF9]
        exact hD.sub [0, 1, 2, 3] (by decide) rfl
      have hv9 : (0 : Int32) = (mOrd kz KA KD KP p1).1 := by
        try rw [hF9]
        try rfl
      exact kc_iret hx hb hr hlocks hv9 hP9 hD9 hS dX5_order_25
  · refine lv_iconst (v := 0) hx hb dX5_order_9 (by decide) ?_
    refine lv_goto (tgt := 14) hx hb dX5_order_10 (by decide) ?_
    refine va_put (D := (dC, dI)) (ci := 5) (v := .int 0) (ty := .int) (C := RX5) (T := TX5) (N := 16) hx hb hts kin_5 tyX5 tyX5_ok nmX5 hown hK hP hD hS 0 rfl rfl 0 (by decide) (hts _ (kcm kwm_204)) (fun _ h9 => h9) rfl (by decide +kernel) rfl rfl (Nat.le_of_ble_eq_true rfl) dX5_order_14 (fun H locs hP hD hS => ?_)
    have hP : va_P (dC, dI) kcl [(q, .inr (5, [.int 0, .ref tx, .int (nI mz), .int fl, .int (bI it), .long al, .ref pt, .int (nI dg), .ref ot, .int (nI wr), .int (nI kz), .ref ka, .ref kd, .ref kp, .int (nI ma), .int (bI wg)])), (ka, .inl (c4, 40, .inr (.inl KA))), (kd, .inl (c5, 40, .inl KD)), (kp, .inl (c6, 10240, .inl KP))] H := hP
    have hD : va_D A [(q, .inr (5, [.int 0, .ref tx, .int (nI mz), .int fl, .int (bI it), .long al, .ref pt, .int (nI dg), .ref ot, .int (nI wr), .int (nI kz), .ref ka, .ref kd, .ref kp, .int (nI ma), .int (bI wg)])), (ka, .inl (c4, 40, .inr (.inl KA))), (kd, .inl (c5, 40, .inl KD)), (kp, .inl (c6, 10240, .inl KP))] := hD
    refine lv_aload_n hx hb dX5_order_17 rfl (lv_at hl 0 rfl) ?_
    refine va_get (D := (dC, dI)) (ci := 5) (v := .int 0) (C := RX5) (T := TX5) (N := 16) hx hb hts kin_5 hown hK hP 0 rfl rfl 0 (by decide) (hts _ (kcm kwm_204)) (fun _ h9 => h9) rfl dX5_order_18 ?_
    refine lv_if_le (tgt := 26) hx hb dX5_order_21 (by decide) (fun c_21 => ?_) (fun c_21 => ?_)
    · refine lv_iconst (v := 0) hx hb dX5_order_26 (by decide) ?_
      refine lv_istore_n (lv' := [(2, .int 0), (0, .ref q), (1, .int p1)]) hx hb dX5_order_27 rfl hl (by decide) rfl (fun ls hl => ?_)
      have hF9 : mOrd kz KA KD KP p1 = (moLp KA KD KP kz p1 kz 0, 0) := by
        first | (simp only [mOrd, if_neg c_6]; done) | rfl
      rw [hF9]
      rw [← nI_0] at hl
      exact lp_odm dC dI st q tx mz fl it al pt dg ot wr kz ka kd kp ma wg 0 c4 KA c5 KD c6 KP p1 (moLp KA KD KP kz p1 kz 0) hkz hkd Cx hA hG hK kz 0 (Nat.zero_le _) (by omega) rfl H locs ls hP hD hS (lv_sub hl [1, 2, 0] rfl)
    · exact absurd (by decide) c_21
set_option maxHeartbeats 4000000 in
set_option maxRecDepth 100000 in
theorem m_init (l : Launch) (dC : Nat → ClassId) (dI : Nat → Nat → Nat) (st sz : Nat) (q : Nat)  : Met l yX5_init wsX5_init ({ frames := 1, cells := 6, slots := 11088, locals := 12 }) (kc_Pc (dC, dI) kcl st sz [.ref q] [(q, .inr (5, [.int 0, .null, .int 0, .int 0, .int 0, .long 0, .null, .int 0, .null, .int 0, .int 0, .null, .null, .null, .int 0, .int 0]))] []) (kc_Qn (S := Nat × Nat × Nat × Nat × Nat × Nat × ClassId × ClassId × ClassId × ClassId × ClassId × ClassId) (dC, dI) kcl (fun u => [(q, .inr (5, [.int 0, .ref u.1, .int (nI 0), .int 0, .int (bI false), .long 0, .ref u.2.1, .int (nI 0), .ref u.2.2.1, .int (nI 0), .int (nI 0), .ref u.2.2.2.1, .ref u.2.2.2.2.1, .ref u.2.2.2.2.2.1, .int (nI 0), .int (bI false)])), (u.1, .inl (u.2.2.2.2.2.2.1, 256, .inl (fun _ => 0))), (u.2.1, .inl (u.2.2.2.2.2.2.2.1, 256, .inl (fun _ => 0))), (u.2.2.1, .inl (u.2.2.2.2.2.2.2.2.1, 256, .inl (fun _ => 0))), (u.2.2.2.1, .inl (u.2.2.2.2.2.2.2.2.2.1, 40, .inr (.inl (fun _ => 0)))), (u.2.2.2.2.1, .inl (u.2.2.2.2.2.2.2.2.2.2.1, 40, .inl (fun _ => 0))), (u.2.2.2.2.2.1, .inl (u.2.2.2.2.2.2.2.2.2.2.2, 10240, .inl (fun _ => 0)))]) (fun u => [(u.2.2.2.2.2.2.1, .int), (u.2.2.2.2.2.2.2.1, .int), (u.2.2.2.2.2.2.2.2.1, .int), (u.2.2.2.2.2.2.2.2.2.1, .long), (u.2.2.2.2.2.2.2.2.2.2.1, .int), (u.2.2.2.2.2.2.2.2.2.2.2, .int)]) (va_A [(q, .inr (5, [.int 0, .null, .int 0, .int 0, .int 0, .long 0, .null, .int 0, .null, .int 0, .int 0, .null, .null, .null, .int 0, .int 0]))] sz)) 6 11088 (va_A [(q, .inr (5, [.int 0, .null, .int 0, .int 0, .int 0, .long 0, .null, .int 0, .null, .int 0, .int 0, .null, .null, .null, .int 0, .int 0]))] sz) := by
  refine kc_ofW (Qc := fun A => (kc_Qn (S := Nat × Nat × Nat × Nat × Nat × Nat × ClassId × ClassId × ClassId × ClassId × ClassId × ClassId) (dC, dI) kcl (fun u => [(q, .inr (5, [.int 0, .ref u.1, .int (nI 0), .int 0, .int (bI false), .long 0, .ref u.2.1, .int (nI 0), .ref u.2.2.1, .int (nI 0), .int (nI 0), .ref u.2.2.2.1, .ref u.2.2.2.2.1, .ref u.2.2.2.2.2.1, .int (nI 0), .int (bI false)])), (u.1, .inl (u.2.2.2.2.2.2.1, 256, .inl (fun _ => 0))), (u.2.1, .inl (u.2.2.2.2.2.2.2.1, 256, .inl (fun _ => 0))), (u.2.2.1, .inl (u.2.2.2.2.2.2.2.2.1, 256, .inl (fun _ => 0))), (u.2.2.2.1, .inl (u.2.2.2.2.2.2.2.2.2.1, 40, .inr (.inl (fun _ => 0)))), (u.2.2.2.2.1, .inl (u.2.2.2.2.2.2.2.2.2.2.1, 40, .inl (fun _ => 0))), (u.2.2.2.2.2.1, .inl (u.2.2.2.2.2.2.2.2.2.2.2, 10240, .inl (fun _ => 0)))]) (fun u => [(u.2.2.2.2.2.2.1, .int), (u.2.2.2.2.2.2.2.1, .int), (u.2.2.2.2.2.2.2.2.1, .int), (u.2.2.2.2.2.2.2.2.2.1, .long), (u.2.2.2.2.2.2.2.2.2.2.1, .int), (u.2.2.2.2.2.2.2.2.2.2.2, .int)]) A)) (cc := cX5_init) (maxL := 1) (ret := none) (by decide) rfl (Nat.le_of_ble_eq_true rfl) ?_
  intro p e s m below meth c A ls Cx hA hG hK hP hD hS hl
  obtain ⟨hx, hb, hr, hml, hown, hts, hlocks, hnm⟩ := id Cx
  have hl : lv_has ls 1 [(0, .ref q)] := hl
  refine lv_aload_n hx hb dX5_init_0 rfl (lv_at hl 0 rfl) ?_
  refine W.objInit hx hb hown (hts _ (kcm kwm_302)) (hts _ (kcm kwm_140)) (hts _ (kcm kwm_141)) rfl (by rw [hml]; exact hl.1) rfl dX5_init_1 (Nat.le_of_ble_eq_true rfl) (Nat.le_of_ble_eq_true rfl) ?_
  refine W.eq (g2 := F0 m 4 ls []) rfl ?_
  refine lv_aload_n hx hb dX5_init_4 rfl (lv_at hl 0 rfl) ?_
  refine lv_sipush (v := 256) hx hb dX5_init_5 (by decide) ?_
  refine va_newa (atype := .int) (a0 := (256, .inl (fun _ => 0))) (ty := .int) (N' := 256) hx hb (hts _ (kcm kwm_147)) rfl hK hP hD hS hA (fun _ => rfl) (by decide) rfl (by decide) (Nat.le_of_ble_eq_true rfl) (Nat.le_of_ble_eq_true rfl) dX5_init_8 (fun q8 cq8 H hK hP hD hS => ?_)
  have hK : va_K (dC, dI) kcl [(cq8, .int)] s := hK
  have hP : va_P (dC, dI) kcl [(q, .inr (5, [.int 0, .null, .int 0, .int 0, .int 0, .long 0, .null, .int 0, .null, .int 0, .int 0, .null, .null, .null, .int 0, .int 0])), (q8, .inl (cq8, 256, .inl (fun _ => 0)))] H := hP
  have hD : va_D A [(q, .inr (5, [.int 0, .null, .int 0, .int 0, .int 0, .long 0, .null, .int 0, .null, .int 0, .int 0, .null, .null, .null, .int 0, .int 0])), (q8, .inl (cq8, 256, .inl (fun _ => 0)))] := hD
  refine W.widen (k := 1) (n := 256) (Nat.le_of_ble_eq_true rfl) (Nat.le_of_ble_eq_true rfl) ?_
  refine va_putF (D := (dC, dI)) (ci := 5) (v := .ref q8) (ty := (.array .int)) (C := RX5) (T := TX5) (N := 16) hx hb hts kin_5 tyX5 tyX5_ok nmX5 hown hK hP hD hS 0 rfl rfl 1 (by decide) (hts _ (kcm kwm_205)) (fun _ h9 => h9) rfl hnm rfl (by decide +kernel) rfl rfl (Nat.le_of_ble_eq_true rfl) dX5_init_10 (fun H locs hP hD hS => ?_)
  have hP : va_P (dC, dI) kcl [(q, .inr (5, [.int 0, .ref q8, .int 0, .int 0, .int 0, .long 0, .null, .int 0, .null, .int 0, .int 0, .null, .null, .null, .int 0, .int 0])), (q8, .inl (cq8, 256, .inl (fun _ => 0)))] H := hP
  have hD : va_D A [(q, .inr (5, [.int 0, .ref q8, .int 0, .int 0, .int 0, .long 0, .null, .int 0, .null, .int 0, .int 0, .null, .null, .null, .int 0, .int 0])), (q8, .inl (cq8, 256, .inl (fun _ => 0)))] := hD
  refine lv_aload_n hx hb dX5_init_13 rfl (lv_at hl 0 rfl) ?_
  refine lv_sipush (v := 256) hx hb dX5_init_14 (by decide) ?_
  refine va_newa (atype := .int) (a0 := (256, .inl (fun _ => 0))) (ty := .int) (N' := 256) hx hb (hts _ (kcm kwm_147)) rfl hK hP hD hS hA (fun _ => rfl) (by decide) rfl (by decide) (Nat.le_of_ble_eq_true rfl) (Nat.le_of_ble_eq_true rfl) dX5_init_17 (fun q17 cq17 H hK hP hD hS => ?_)
  have hK : va_K (dC, dI) kcl [(cq8, .int), (cq17, .int)] s := hK
  have hP : va_P (dC, dI) kcl [(q, .inr (5, [.int 0, .ref q8, .int 0, .int 0, .int 0, .long 0, .null, .int 0, .null, .int 0, .int 0, .null, .null, .null, .int 0, .int 0])), (q8, .inl (cq8, 256, .inl (fun _ => 0))), (q17, .inl (cq17, 256, .inl (fun _ => 0)))] H := hP
  have hD : va_D A [(q, .inr (5, [.int 0, .ref q8, .int 0, .int 0, .int 0, .long 0, .null, .int 0, .null, .int 0, .int 0, .null, .null, .null, .int 0, .int 0])), (q8, .inl (cq8, 256, .inl (fun _ => 0))), (q17, .inl (cq17, 256, .inl (fun _ => 0)))] := hD
  refine W.widen (k := 2) (n := 512) (Nat.le_of_ble_eq_true rfl) (Nat.le_of_ble_eq_true rfl) ?_
  refine va_putF (D := (dC, dI)) (ci := 5) (v := .ref q17) (ty := (.array .int)) (C := RX5) (T := TX5) (N := 16) hx hb hts kin_5 tyX5 tyX5_ok nmX5 hown hK hP hD hS 0 rfl rfl 6 (by decide) (hts _ (kcm kwm_237)) (fun _ h9 => h9) rfl hnm rfl (by decide +kernel) rfl rfl (Nat.le_of_ble_eq_true rfl) dX5_init_19 (fun H locs hP hD hS => ?_)
  have hP : va_P (dC, dI) kcl [(q, .inr (5, [.int 0, .ref q8, .int 0, .int 0, .int 0, .long 0, .ref q17, .int 0, .null, .int 0, .int 0, .null, .null, .null, .int 0, .int 0])), (q8, .inl (cq8, 256, .inl (fun _ => 0))), (q17, .inl (cq17, 256, .inl (fun _ => 0)))] H := hP
  have hD : va_D A [(q, .inr (5, [.int 0, .ref q8, .int 0, .int 0, .int 0, .long 0, .ref q17, .int 0, .null, .int 0, .int 0, .null, .null, .null, .int 0, .int 0])), (q8, .inl (cq8, 256, .inl (fun _ => 0))), (q17, .inl (cq17, 256, .inl (fun _ => 0)))] := hD
  refine lv_aload_n hx hb dX5_init_22 rfl (lv_at hl 0 rfl) ?_
  refine lv_sipush (v := 256) hx hb dX5_init_23 (by decide) ?_
  refine va_newa (atype := .int) (a0 := (256, .inl (fun _ => 0))) (ty := .int) (N' := 256) hx hb (hts _ (kcm kwm_147)) rfl hK hP hD hS hA (fun _ => rfl) (by decide) rfl (by decide) (Nat.le_of_ble_eq_true rfl) (Nat.le_of_ble_eq_true rfl) dX5_init_26 (fun q26 cq26 H hK hP hD hS => ?_)
  have hK : va_K (dC, dI) kcl [(cq8, .int), (cq17, .int), (cq26, .int)] s := hK
  have hP : va_P (dC, dI) kcl [(q, .inr (5, [.int 0, .ref q8, .int 0, .int 0, .int 0, .long 0, .ref q17, .int 0, .null, .int 0, .int 0, .null, .null, .null, .int 0, .int 0])), (q8, .inl (cq8, 256, .inl (fun _ => 0))), (q17, .inl (cq17, 256, .inl (fun _ => 0))), (q26, .inl (cq26, 256, .inl (fun _ => 0)))] H := hP
  have hD : va_D A [(q, .inr (5, [.int 0, .ref q8, .int 0, .int 0, .int 0, .long 0, .ref q17, .int 0, .null, .int 0, .int 0, .null, .null, .null, .int 0, .int 0])), (q8, .inl (cq8, 256, .inl (fun _ => 0))), (q17, .inl (cq17, 256, .inl (fun _ => 0))), (q26, .inl (cq26, 256, .inl (fun _ => 0)))] := hD
  refine W.widen (k := 3) (n := 768) (Nat.le_of_ble_eq_true rfl) (Nat.le_of_ble_eq_true rfl) ?_
  refine va_putF (D := (dC, dI)) (ci := 5) (v := .ref q26) (ty := (.array .int)) (C := RX5) (T := TX5) (N := 16) hx hb hts kin_5 tyX5 tyX5_ok nmX5 hown hK hP hD hS 0 rfl rfl 8 (by decide) (hts _ (kcm kwm_270)) (fun _ h9 => h9) rfl hnm rfl (by decide +kernel) rfl rfl (Nat.le_of_ble_eq_true rfl) dX5_init_28 (fun H locs hP hD hS => ?_)
  have hP : va_P (dC, dI) kcl [(q, .inr (5, [.int 0, .ref q8, .int 0, .int 0, .int 0, .long 0, .ref q17, .int 0, .ref q26, .int 0, .int 0, .null, .null, .null, .int 0, .int 0])), (q8, .inl (cq8, 256, .inl (fun _ => 0))), (q17, .inl (cq17, 256, .inl (fun _ => 0))), (q26, .inl (cq26, 256, .inl (fun _ => 0)))] H := hP
  have hD : va_D A [(q, .inr (5, [.int 0, .ref q8, .int 0, .int 0, .int 0, .long 0, .ref q17, .int 0, .ref q26, .int 0, .int 0, .null, .null, .null, .int 0, .int 0])), (q8, .inl (cq8, 256, .inl (fun _ => 0))), (q17, .inl (cq17, 256, .inl (fun _ => 0))), (q26, .inl (cq26, 256, .inl (fun _ => 0)))] := hD
  refine lv_aload_n hx hb dX5_init_31 rfl (lv_at hl 0 rfl) ?_
  refine lv_bipush (v := 40) hx hb dX5_init_32 (by decide) ?_
  refine va_newa (atype := .long) (a0 := (40, .inr (.inl (fun _ => 0)))) (ty := .long) (N' := 40) hx hb (hts _ (kcm kwm_146)) rfl hK hP hD hS hA (fun _ => rfl) (by decide) rfl (by decide) (Nat.le_of_ble_eq_true rfl) (Nat.le_of_ble_eq_true rfl) dX5_init_34 (fun q34 cq34 H hK hP hD hS => ?_)
  have hK : va_K (dC, dI) kcl [(cq8, .int), (cq17, .int), (cq26, .int), (cq34, .long)] s := hK
  have hP : va_P (dC, dI) kcl [(q, .inr (5, [.int 0, .ref q8, .int 0, .int 0, .int 0, .long 0, .ref q17, .int 0, .ref q26, .int 0, .int 0, .null, .null, .null, .int 0, .int 0])), (q8, .inl (cq8, 256, .inl (fun _ => 0))), (q17, .inl (cq17, 256, .inl (fun _ => 0))), (q26, .inl (cq26, 256, .inl (fun _ => 0))), (q34, .inl (cq34, 40, .inr (.inl (fun _ => 0))))] H := hP
  have hD : va_D A [(q, .inr (5, [.int 0, .ref q8, .int 0, .int 0, .int 0, .long 0, .ref q17, .int 0, .ref q26, .int 0, .int 0, .null, .null, .null, .int 0, .int 0])), (q8, .inl (cq8, 256, .inl (fun _ => 0))), (q17, .inl (cq17, 256, .inl (fun _ => 0))), (q26, .inl (cq26, 256, .inl (fun _ => 0))), (q34, .inl (cq34, 40, .inr (.inl (fun _ => 0))))] := hD
  refine W.widen (k := 4) (n := 808) (Nat.le_of_ble_eq_true rfl) (Nat.le_of_ble_eq_true rfl) ?_
  refine va_putF (D := (dC, dI)) (ci := 5) (v := .ref q34) (ty := (.array .long)) (C := RX5) (T := TX5) (N := 16) hx hb hts kin_5 tyX5 tyX5_ok nmX5 hown hK hP hD hS 0 rfl rfl 11 (by decide) (hts _ (kcm kwm_295)) (fun _ h9 => h9) rfl hnm rfl (by decide +kernel) rfl rfl (Nat.le_of_ble_eq_true rfl) dX5_init_36 (fun H locs hP hD hS => ?_)
  have hP : va_P (dC, dI) kcl [(q, .inr (5, [.int 0, .ref q8, .int 0, .int 0, .int 0, .long 0, .ref q17, .int 0, .ref q26, .int 0, .int 0, .ref q34, .null, .null, .int 0, .int 0])), (q8, .inl (cq8, 256, .inl (fun _ => 0))), (q17, .inl (cq17, 256, .inl (fun _ => 0))), (q26, .inl (cq26, 256, .inl (fun _ => 0))), (q34, .inl (cq34, 40, .inr (.inl (fun _ => 0))))] H := hP
  have hD : va_D A [(q, .inr (5, [.int 0, .ref q8, .int 0, .int 0, .int 0, .long 0, .ref q17, .int 0, .ref q26, .int 0, .int 0, .ref q34, .null, .null, .int 0, .int 0])), (q8, .inl (cq8, 256, .inl (fun _ => 0))), (q17, .inl (cq17, 256, .inl (fun _ => 0))), (q26, .inl (cq26, 256, .inl (fun _ => 0))), (q34, .inl (cq34, 40, .inr (.inl (fun _ => 0))))] := hD
  refine lv_aload_n hx hb dX5_init_39 rfl (lv_at hl 0 rfl) ?_
  refine lv_bipush (v := 40) hx hb dX5_init_40 (by decide) ?_
  refine va_newa (atype := .int) (a0 := (40, .inl (fun _ => 0))) (ty := .int) (N' := 40) hx hb (hts _ (kcm kwm_147)) rfl hK hP hD hS hA (fun _ => rfl) (by decide) rfl (by decide) (Nat.le_of_ble_eq_true rfl) (Nat.le_of_ble_eq_true rfl) dX5_init_42 (fun q42 cq42 H hK hP hD hS => ?_)
  have hK : va_K (dC, dI) kcl [(cq8, .int), (cq17, .int), (cq26, .int), (cq34, .long), (cq42, .int)] s := hK
  have hP : va_P (dC, dI) kcl [(q, .inr (5, [.int 0, .ref q8, .int 0, .int 0, .int 0, .long 0, .ref q17, .int 0, .ref q26, .int 0, .int 0, .ref q34, .null, .null, .int 0, .int 0])), (q8, .inl (cq8, 256, .inl (fun _ => 0))), (q17, .inl (cq17, 256, .inl (fun _ => 0))), (q26, .inl (cq26, 256, .inl (fun _ => 0))), (q34, .inl (cq34, 40, .inr (.inl (fun _ => 0)))), (q42, .inl (cq42, 40, .inl (fun _ => 0)))] H := hP
  have hD : va_D A [(q, .inr (5, [.int 0, .ref q8, .int 0, .int 0, .int 0, .long 0, .ref q17, .int 0, .ref q26, .int 0, .int 0, .ref q34, .null, .null, .int 0, .int 0])), (q8, .inl (cq8, 256, .inl (fun _ => 0))), (q17, .inl (cq17, 256, .inl (fun _ => 0))), (q26, .inl (cq26, 256, .inl (fun _ => 0))), (q34, .inl (cq34, 40, .inr (.inl (fun _ => 0)))), (q42, .inl (cq42, 40, .inl (fun _ => 0)))] := hD
  refine W.widen (k := 5) (n := 848) (Nat.le_of_ble_eq_true rfl) (Nat.le_of_ble_eq_true rfl) ?_
  refine va_putF (D := (dC, dI)) (ci := 5) (v := .ref q42) (ty := (.array .int)) (C := RX5) (T := TX5) (N := 16) hx hb hts kin_5 tyX5 tyX5_ok nmX5 hown hK hP hD hS 0 rfl rfl 12 (by decide) (hts _ (kcm kwm_297)) (fun _ h9 => h9) rfl hnm rfl (by decide +kernel) rfl rfl (Nat.le_of_ble_eq_true rfl) dX5_init_44 (fun H locs hP hD hS => ?_)
  have hP : va_P (dC, dI) kcl [(q, .inr (5, [.int 0, .ref q8, .int 0, .int 0, .int 0, .long 0, .ref q17, .int 0, .ref q26, .int 0, .int 0, .ref q34, .ref q42, .null, .int 0, .int 0])), (q8, .inl (cq8, 256, .inl (fun _ => 0))), (q17, .inl (cq17, 256, .inl (fun _ => 0))), (q26, .inl (cq26, 256, .inl (fun _ => 0))), (q34, .inl (cq34, 40, .inr (.inl (fun _ => 0)))), (q42, .inl (cq42, 40, .inl (fun _ => 0)))] H := hP
  have hD : va_D A [(q, .inr (5, [.int 0, .ref q8, .int 0, .int 0, .int 0, .long 0, .ref q17, .int 0, .ref q26, .int 0, .int 0, .ref q34, .ref q42, .null, .int 0, .int 0])), (q8, .inl (cq8, 256, .inl (fun _ => 0))), (q17, .inl (cq17, 256, .inl (fun _ => 0))), (q26, .inl (cq26, 256, .inl (fun _ => 0))), (q34, .inl (cq34, 40, .inr (.inl (fun _ => 0)))), (q42, .inl (cq42, 40, .inl (fun _ => 0)))] := hD
  refine lv_aload_n hx hb dX5_init_47 rfl (lv_at hl 0 rfl) ?_
  refine lv_sipush (v := 10240) hx hb dX5_init_48 (by decide) ?_
  refine va_newa (atype := .int) (a0 := (10240, .inl (fun _ => 0))) (ty := .int) (N' := 10240) hx hb (hts _ (kcm kwm_147)) rfl hK hP hD hS hA (fun _ => rfl) (by decide) rfl (by decide) (Nat.le_of_ble_eq_true rfl) (Nat.le_of_ble_eq_true rfl) dX5_init_51 (fun q51 cq51 H hK hP hD hS => ?_)
  have hK : va_K (dC, dI) kcl [(cq8, .int), (cq17, .int), (cq26, .int), (cq34, .long), (cq42, .int), (cq51, .int)] s := hK
  have hP : va_P (dC, dI) kcl [(q, .inr (5, [.int 0, .ref q8, .int 0, .int 0, .int 0, .long 0, .ref q17, .int 0, .ref q26, .int 0, .int 0, .ref q34, .ref q42, .null, .int 0, .int 0])), (q8, .inl (cq8, 256, .inl (fun _ => 0))), (q17, .inl (cq17, 256, .inl (fun _ => 0))), (q26, .inl (cq26, 256, .inl (fun _ => 0))), (q34, .inl (cq34, 40, .inr (.inl (fun _ => 0)))), (q42, .inl (cq42, 40, .inl (fun _ => 0))), (q51, .inl (cq51, 10240, .inl (fun _ => 0)))] H := hP
  have hD : va_D A [(q, .inr (5, [.int 0, .ref q8, .int 0, .int 0, .int 0, .long 0, .ref q17, .int 0, .ref q26, .int 0, .int 0, .ref q34, .ref q42, .null, .int 0, .int 0])), (q8, .inl (cq8, 256, .inl (fun _ => 0))), (q17, .inl (cq17, 256, .inl (fun _ => 0))), (q26, .inl (cq26, 256, .inl (fun _ => 0))), (q34, .inl (cq34, 40, .inr (.inl (fun _ => 0)))), (q42, .inl (cq42, 40, .inl (fun _ => 0))), (q51, .inl (cq51, 10240, .inl (fun _ => 0)))] := hD
  refine W.widen (k := 6) (n := 11088) (Nat.le_of_ble_eq_true rfl) (Nat.le_of_ble_eq_true rfl) ?_
  refine va_putF (D := (dC, dI)) (ci := 5) (v := .ref q51) (ty := (.array .int)) (C := RX5) (T := TX5) (N := 16) hx hb hts kin_5 tyX5 tyX5_ok nmX5 hown hK hP hD hS 0 rfl rfl 13 (by decide) (hts _ (kcm kwm_296)) (fun _ h9 => h9) rfl hnm rfl (by decide +kernel) rfl rfl (Nat.le_of_ble_eq_true rfl) dX5_init_53 (fun H locs hP hD hS => ?_)
  have hP : va_P (dC, dI) kcl [(q, .inr (5, [.int 0, .ref q8, .int 0, .int 0, .int 0, .long 0, .ref q17, .int 0, .ref q26, .int 0, .int 0, .ref q34, .ref q42, .ref q51, .int 0, .int 0])), (q8, .inl (cq8, 256, .inl (fun _ => 0))), (q17, .inl (cq17, 256, .inl (fun _ => 0))), (q26, .inl (cq26, 256, .inl (fun _ => 0))), (q34, .inl (cq34, 40, .inr (.inl (fun _ => 0)))), (q42, .inl (cq42, 40, .inl (fun _ => 0))), (q51, .inl (cq51, 10240, .inl (fun _ => 0)))] H := hP
  have hD : va_D A [(q, .inr (5, [.int 0, .ref q8, .int 0, .int 0, .int 0, .long 0, .ref q17, .int 0, .ref q26, .int 0, .int 0, .ref q34, .ref q42, .ref q51, .int 0, .int 0])), (q8, .inl (cq8, 256, .inl (fun _ => 0))), (q17, .inl (cq17, 256, .inl (fun _ => 0))), (q26, .inl (cq26, 256, .inl (fun _ => 0))), (q34, .inl (cq34, 40, .inr (.inl (fun _ => 0)))), (q42, .inl (cq42, 40, .inl (fun _ => 0))), (q51, .inl (cq51, 10240, .inl (fun _ => 0)))] := hD
  exact kc_nret (u := (q8, q17, q26, q34, q42, q51, cq8, cq17, cq26, cq34, cq42, cq51)) hx hb hr hlocks (hP.sub [0, 1, 2, 3, 4, 5, 6] rfl) (hK.sub [0, 1, 2, 3, 4, 5] rfl) (hD.sub [0, 1, 2, 3, 4, 5, 6] (by decide) rfl) hS dX5_init_56
