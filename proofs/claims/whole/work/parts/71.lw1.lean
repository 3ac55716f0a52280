abbrev cL_again : ByteArray := method_7_code
def yL_again : MethodName := ⟨RL, "again", "(LClockTexts;[J)I"⟩
abbrev cL_end : ByteArray := method_4_code
def yL_end : MethodName := ⟨RL, "end", "(LClockTexts;I[J)I"⟩
abbrev cL_feed : ByteArray := method_3_code
def yL_feed : MethodName := ⟨RL, "feed", "(LClockTexts;IIII[J)I"⟩
abbrev cL_out : ByteArray := method_6_code
def yL_out : MethodName := ⟨RL, "out", "(LClockTexts;I[J)I"⟩
abbrev cL_seconds : ByteArray := method_8_code
def yL_seconds : MethodName := ⟨RL, "seconds", "(LClockTexts;[J)I"⟩
abbrev wsL_again : List Cond := .codeWith yL_again cL_again 3 (some .int) [(0, 8, 11, 13)] :: kw
abbrev wsL_end : List Cond := .codeWith yL_end cL_end 4 (some .int) [(0, 9, 12, 19), (0, 9, 15, 13)] :: kw
abbrev wsL_feed : List Cond := .codeWith yL_feed cL_feed 7 (some .int) [(0, 14, 17, 13)] :: kw
abbrev wsL_out : List Cond := .codeWith yL_out cL_out 4 (some .int) [(0, 9, 12, 27)] :: kw
abbrev wsL_seconds : List Cond := .codeWith yL_seconds cL_seconds 3 (some .int) [(0, 7, 10, 13)] :: kw
theorem kwm_303 : (.methodLink RL 7 yX4_feed : Cond) ∈ kw := kw_in (i := 193) (by decide +kernel) (by decide +kernel)
theorem kwm_304 : (.instanceMethod yX4_feed : Cond) ∈ kw := kw_in (i := 194) (by decide +kernel) (by decide +kernel)
theorem kwm_305 : (.selects RX4 yX4_feed yX4_feed : Cond) ∈ kw := kw_in (i := 195) (by decide +kernel) (by decide +kernel)
theorem kwm_306 : (.code yX4_feed cX4_feed 5 (some .int) : Cond) ∈ kw := kw_in (i := 196) (by decide +kernel) (by decide +kernel)
theorem kwm_307 : (.methodLink RL 15 yX4_end : Cond) ∈ kw := kw_in (i := 277) (by decide +kernel) (by decide +kernel)
theorem kwm_308 : (.instanceMethod yX4_end : Cond) ∈ kw := kw_in (i := 278) (by decide +kernel) (by decide +kernel)
theorem kwm_309 : (.selects RX4 yX4_end yX4_end : Cond) ∈ kw := kw_in (i := 279) (by decide +kernel) (by decide +kernel)
theorem kwm_310 : (.code yX4_end cX4_end 2 (some .int) : Cond) ∈ kw := kw_in (i := 280) (by decide +kernel) (by decide +kernel)
theorem kwm_311 : (.methodLink RL 24 yX4_out : Cond) ∈ kw := kw_in (i := 405) (by decide +kernel) (by decide +kernel)
theorem kwm_312 : (.instanceMethod yX4_out : Cond) ∈ kw := kw_in (i := 406) (by decide +kernel) (by decide +kernel)
theorem kwm_313 : (.selects RX4 yX4_out yX4_out : Cond) ∈ kw := kw_in (i := 407) (by decide +kernel) (by decide +kernel)
theorem kwm_314 : (.code yX4_out cX4_out 2 (some .int) : Cond) ∈ kw := kw_in (i := 408) (by decide +kernel) (by decide +kernel)
theorem kwm_315 : (.methodLink RL 29 yX4_again : Cond) ∈ kw := kw_in (i := 429) (by decide +kernel) (by decide +kernel)
theorem kwm_316 : (.instanceMethod yX4_again : Cond) ∈ kw := kw_in (i := 430) (by decide +kernel) (by decide +kernel)
theorem kwm_317 : (.selects RX4 yX4_again yX4_again : Cond) ∈ kw := kw_in (i := 431) (by decide +kernel) (by decide +kernel)
theorem kwm_318 : (.code yX4_again cX4_again 2 (some .int) : Cond) ∈ kw := kw_in (i := 432) (by decide +kernel) (by decide +kernel)
theorem kwm_319 : (.methodLink RL 33 yX4_seconds : Cond) ∈ kw := kw_in (i := 437) (by decide +kernel) (by decide +kernel)
theorem kwm_320 : (.instanceMethod yX4_seconds : Cond) ∈ kw := kw_in (i := 438) (by decide +kernel) (by decide +kernel)
theorem kwm_321 : (.selects RX4 yX4_seconds yX4_seconds : Cond) ∈ kw := kw_in (i := 439) (by decide +kernel) (by decide +kernel)
theorem kwm_322 : (.code yX4_seconds cX4_seconds 1 (some .long) : Cond) ∈ kw := kw_in (i := 440) (by decide +kernel) (by decide +kernel)
theorem kwm_323 : (.classLink RL 13 "java/lang/IllegalStateException" : Cond) ∈ kw := kw_in (i := 192) (by decide +kernel) (by decide +kernel)
theorem kwm_324 : (.classLink RL 19 "java/lang/IllegalArgumentException" : Cond) ∈ kw := kw_in (i := 276) (by decide +kernel) (by decide +kernel)
theorem kwm_325 : (.classLink RL 27 "java/lang/IndexOutOfBoundsException" : Cond) ∈ kw := kw_in (i := 404) (by decide +kernel) (by decide +kernel)
theorem dL_feed_0 : decode cL_feed 0 = .ok (.aload 5, 2) := by decide +kernel
theorem dL_feed_2 : decode cL_feed 2 = .ok (.iconst 0, 1) := by decide +kernel
theorem dL_feed_3 : decode cL_feed 3 = .ok (.aload_n 0, 1) := by decide +kernel
theorem dL_feed_4 : decode cL_feed 4 = .ok (.iload_n 1, 1) := by decide +kernel
theorem dL_feed_5 : decode cL_feed 5 = .ok (.iload_n 2, 1) := by decide +kernel
theorem dL_feed_6 : decode cL_feed 6 = .ok (.iload_n 3, 1) := by decide +kernel
theorem dL_feed_7 : decode cL_feed 7 = .ok (.iload 4, 2) := by decide +kernel
theorem dL_feed_9 : decode cL_feed 9 = .ok (.invokevirtual 7, 3) := by decide +kernel
theorem dL_feed_12 : decode cL_feed 12 = .ok (.i2l, 1) := by decide +kernel
theorem dL_feed_13 : decode cL_feed 13 = .ok (.lastore, 1) := by decide +kernel
theorem dL_feed_14 : decode cL_feed 14 = .ok (.goto 7, 3) := by decide +kernel
theorem dL_feed_17 : decode cL_feed 17 = .ok (.astore 6, 2) := by decide +kernel
theorem dL_feed_19 : decode cL_feed 19 = .ok (.iconst 1, 1) := by decide +kernel
theorem dL_feed_20 : decode cL_feed 20 = .ok (.ireturn, 1) := by decide +kernel
theorem dL_feed_21 : decode cL_feed 21 = .ok (.iconst 0, 1) := by decide +kernel
theorem dL_feed_22 : decode cL_feed 22 = .ok (.ireturn, 1) := by decide +kernel
theorem dL_end_0 : decode cL_end 0 = .ok (.aload_n 2, 1) := by decide +kernel
theorem dL_end_1 : decode cL_end 1 = .ok (.iconst 0, 1) := by decide +kernel
theorem dL_end_2 : decode cL_end 2 = .ok (.aload_n 0, 1) := by decide +kernel
theorem dL_end_3 : decode cL_end 3 = .ok (.iload_n 1, 1) := by decide +kernel
theorem dL_end_4 : decode cL_end 4 = .ok (.invokevirtual 15, 3) := by decide +kernel
theorem dL_end_7 : decode cL_end 7 = .ok (.i2l, 1) := by decide +kernel
theorem dL_end_8 : decode cL_end 8 = .ok (.lastore, 1) := by decide +kernel
theorem dL_end_9 : decode cL_end 9 = .ok (.goto 9, 3) := by decide +kernel
theorem dL_end_12 : decode cL_end 12 = .ok (.astore_n 3, 1) := by decide +kernel
theorem dL_end_13 : decode cL_end 13 = .ok (.iconst 1, 1) := by decide +kernel
theorem dL_end_14 : decode cL_end 14 = .ok (.ireturn, 1) := by decide +kernel
theorem dL_end_15 : decode cL_end 15 = .ok (.astore_n 3, 1) := by decide +kernel
theorem dL_end_16 : decode cL_end 16 = .ok (.iconst 2, 1) := by decide +kernel
theorem dL_end_17 : decode cL_end 17 = .ok (.ireturn, 1) := by decide +kernel
theorem dL_end_18 : decode cL_end 18 = .ok (.iconst 0, 1) := by decide +kernel
theorem dL_end_19 : decode cL_end 19 = .ok (.ireturn, 1) := by decide +kernel
theorem dL_out_0 : decode cL_out 0 = .ok (.aload_n 2, 1) := by decide +kernel
theorem dL_out_1 : decode cL_out 1 = .ok (.iconst 0, 1) := by decide +kernel
theorem dL_out_2 : decode cL_out 2 = .ok (.aload_n 0, 1) := by decide +kernel
theorem dL_out_3 : decode cL_out 3 = .ok (.iload_n 1, 1) := by decide +kernel
theorem dL_out_4 : decode cL_out 4 = .ok (.invokevirtual 24, 3) := by decide +kernel
theorem dL_out_7 : decode cL_out 7 = .ok (.i2l, 1) := by decide +kernel
theorem dL_out_8 : decode cL_out 8 = .ok (.lastore, 1) := by decide +kernel
theorem dL_out_9 : decode cL_out 9 = .ok (.goto 6, 3) := by decide +kernel
theorem dL_out_12 : decode cL_out 12 = .ok (.astore_n 3, 1) := by decide +kernel
theorem dL_out_13 : decode cL_out 13 = .ok (.iconst 1, 1) := by decide +kernel
theorem dL_out_14 : decode cL_out 14 = .ok (.ireturn, 1) := by decide +kernel
theorem dL_out_15 : decode cL_out 15 = .ok (.iconst 0, 1) := by decide +kernel
theorem dL_out_16 : decode cL_out 16 = .ok (.ireturn, 1) := by decide +kernel
theorem dL_again_0 : decode cL_again 0 = .ok (.aload_n 1, 1) := by decide +kernel
theorem dL_again_1 : decode cL_again 1 = .ok (.iconst 0, 1) := by decide +kernel
theorem dL_again_2 : decode cL_again 2 = .ok (.aload_n 0, 1) := by decide +kernel
theorem dL_again_3 : decode cL_again 3 = .ok (.invokevirtual 29, 3) := by decide +kernel
theorem dL_again_6 : decode cL_again 6 = .ok (.i2l, 1) := by decide +kernel
theorem dL_again_7 : decode cL_again 7 = .ok (.lastore, 1) := by decide +kernel
theorem dL_again_8 : decode cL_again 8 = .ok (.goto 6, 3) := by decide +kernel
theorem dL_again_11 : decode cL_again 11 = .ok (.astore_n 2, 1) := by decide +kernel
theorem dL_again_12 : decode cL_again 12 = .ok (.iconst 1, 1) := by decide +kernel
theorem dL_again_13 : decode cL_again 13 = .ok (.ireturn, 1) := by decide +kernel
theorem dL_again_14 : decode cL_again 14 = .ok (.iconst 0, 1) := by decide +kernel
theorem dL_again_15 : decode cL_again 15 = .ok (.ireturn, 1) := by decide +kernel
theorem dL_seconds_0 : decode cL_seconds 0 = .ok (.aload_n 1, 1) := by decide +kernel
theorem dL_seconds_1 : decode cL_seconds 1 = .ok (.iconst 0, 1) := by decide +kernel
theorem dL_seconds_2 : decode cL_seconds 2 = .ok (.aload_n 0, 1) := by decide +kernel
theorem dL_seconds_3 : decode cL_seconds 3 = .ok (.invokevirtual 33, 3) := by decide +kernel
theorem dL_seconds_6 : decode cL_seconds 6 = .ok (.lastore, 1) := by decide +kernel
theorem dL_seconds_7 : decode cL_seconds 7 = .ok (.goto 6, 3) := by decide +kernel
theorem dL_seconds_10 : decode cL_seconds 10 = .ok (.astore_n 2, 1) := by decide +kernel
theorem dL_seconds_11 : decode cL_seconds 11 = .ok (.iconst 1, 1) := by decide +kernel
theorem dL_seconds_12 : decode cL_seconds 12 = .ok (.ireturn, 1) := by decide +kernel
theorem dL_seconds_13 : decode cL_seconds 13 = .ok (.iconst 0, 1) := by decide +kernel
theorem dL_seconds_14 : decode cL_seconds 14 = .ok (.ireturn, 1) := by decide +kernel
set_option maxHeartbeats 4000000 in
set_option maxRecDepth 100000 in
theorem w_feed (l : Launch) (hl9 : l.stackTraces = false) (dC : Nat → ClassId) (dI : Nat → Nat → Nat) (st sz : Nat) (x : Nat) (t0 : Nat) (w0 : Nat) (r0 : Nat) (m0 : Nat) (k0 : Nat) (tt : Bool) (lf : Int32) (tb : Nat) (cT : ClassId) (ft : Nat → Int32) (nt : Nat) (p1 : Int32) (p2 : Int32) (p3 : Int32) (p4 : Int32) (o : Nat) (cG : ClassId) (G : Nat → Int64) (ht : nt ≤ 242) : Met l yL_feed wsL_feed ({ frames := 7, cells := 1, slots := 6, locals := 114 }) (kn_Pc (dC, dI) kcl st sz [.ref x, .int p1, .int p2, .int p3, .int p4, .ref o] [(x, .inr (4, [.ref t0, .ref w0, .ref r0, .ref m0, .ref k0, .int (bI tt), .int lf])), (t0, .inr (0, [.ref tb, .int (nI nt)])), (tb, .inl (cT, 242, .inl ft)), (o, .inl (cG, 1, .inr (.inl G)))] [(cT, .byte), (cG, .long)]) (kc_Qi (dC, dI) kcl (wk 1 (fdR ft nt p1 p2 p3 p4).1) [(x, .inr (4, [.ref t0, .ref w0, .ref r0, .ref m0, .ref k0, .int (bI tt), .int lf])), (t0, .inr (0, [.ref tb, .int (nI (fdR ft nt p1 p2 p3 p4).2.2.2)])), (tb, .inl (cT, 242, .inl (fdR ft nt p1 p2 p3 p4).2.2.1)), (o, .inl (cG, 1, .inr (.inl (wo (fdR ft nt p1 p2 p3 p4).1 G (fdR ft nt p1 p2 p3 p4).2.1.toInt64))))] (va_A [(x, .inr (4, [.ref t0, .ref w0, .ref r0, .ref m0, .ref k0, .int (bI tt), .int lf])), (t0, .inr (0, [.ref tb, .int (nI nt)])), (tb, .inl (cT, 242, .inl ft)), (o, .inl (cG, 1, .inr (.inl G)))] sz)) 1 6 (va_A [(x, .inr (4, [.ref t0, .ref w0, .ref r0, .ref m0, .ref k0, .int (bI tt), .int lf])), (t0, .inr (0, [.ref tb, .int (nI nt)])), (tb, .inl (cT, 242, .inl ft)), (o, .inl (cG, 1, .inr (.inl G)))] sz) := by
  refine kl_ofH (Qc := fun A => (kc_Qi (dC, dI) kcl (wk 1 (fdR ft nt p1 p2 p3 p4).1) [(x, .inr (4, [.ref t0, .ref w0, .ref r0, .ref m0, .ref k0, .int (bI tt), .int lf])), (t0, .inr (0, [.ref tb, .int (nI (fdR ft nt p1 p2 p3 p4).2.2.2)])), (tb, .inl (cT, 242, .inl (fdR ft nt p1 p2 p3 p4).2.2.1)), (o, .inl (cG, 1, .inr (.inl (wo (fdR ft nt p1 p2 p3 p4).1 G (fdR ft nt p1 p2 p3 p4).2.1.toInt64))))] A)) (cc := cL_feed) (maxL := 7) (ret := (some .int)) (by decide) rfl (Nat.le_of_ble_eq_true rfl) ?_
  intro p e s m below meth c A ls Cx hTab hN hA hG hK hP hD hS hl
  obtain ⟨hx, hb, hr, hml, hown, hts, hlocks, hnm⟩ := id Cx
  have hl : lv_has ls 7 [(0, .ref x), (1, .int p1), (2, .int p2), (3, .int p3), (4, .int p4), (5, .ref o)] := hl
  refine lv_aload hx hb dL_feed_0 (lv_at hl 5 rfl) ?_
  refine lv_iconst (v := 0) hx hb dL_feed_2 (by decide) ?_
  refine lv_aload_n hx hb dL_feed_3 rfl (lv_at hl 0 rfl) ?_
  refine lv_iload_n hx hb dL_feed_4 rfl (lv_at hl 1 rfl) ?_
  refine lv_iload_n hx hb dL_feed_5 rfl (lv_at hl 2 rfl) ?_
  refine lv_iload_n hx hb dL_feed_6 rfl (lv_at hl 3 rfl) ?_
  refine lv_iload hx hb dL_feed_7 (lv_at hl 4 rfl) ?_
  have hPc := hP.sub (ws' := [(x, .inr (4, [.ref t0, .ref w0, .ref r0, .ref m0, .ref k0, .int (bI tt), .int lf])), (t0, .inr (0, [.ref tb, .int (nI nt)])), (tb, .inl (cT, 242, .inl ft))]) [0, 1, 2] rfl
  have hDc := hD.sub (ws' := [(x, .inr (4, [.ref t0, .ref w0, .ref r0, .ref m0, .ref k0, .int (bI tt), .int lf])), (t0, .inr (0, [.ref tb, .int (nI nt)])), (tb, .inl (cT, 242, .inl ft))]) [0, 1, 2] (by decide) rfl
  have hKc := hK.sub (tys' := [(cT, .byte)]) [0] rfl
  have hFc := va_free (wc := [(x, .inr (4, [.ref t0, .ref w0, .ref r0, .ref m0, .ref k0, .int (bI tt), .int lf])), (t0, .inr (0, [.ref tb, .int (nI nt)])), (tb, .inl (cT, 242, .inl ft))]) hD hS hA [0, 1, 2] rfl
  refine kx_calli (code := (fdR ft nt p1 p2 p3 p4).1) (val := (fdR ft nt p1 p2 p3 p4).2.1) (wr := [(o, .inl (cG, 1, .inr (.inl G)))]) (w1 := [(x, .inr (4, [.ref t0, .ref w0, .ref r0, .ref m0, .ref k0, .int (bI tt), .int lf])), (t0, .inr (0, [.ref tb, .int (nI (fdR ft nt p1 p2 p3 p4).2.2.2)])), (tb, .inl (cT, 242, .inl (fdR ft nt p1 p2 p3 p4).2.2.1))]) (vx_runV (As := [.int p1, .int p2, .int p3, .int p4]) (rest := [.int 0, .ref o]) ⟨hx, hb, hml, hown, hts⟩ (c_CT_feed l hl9 dC dI st s.heap.size x t0 w0 r0 m0 k0 tt lf tb cT ft nt p1 p2 p3 p4 ht) (cwV 4 hts (kwV kwm_303 kwm_304 kwm_305 kwm_14 kwm_306) rfl rfl rfl (by decide +kernel) ⟨Nat.le_of_ble_eq_true rfl, Nat.le_of_ble_eq_true rfl⟩) ⟨kc_blind, va_recv hKc hPc (ci := 4) (q0 := 0) rfl rfl, kc_pre hG hS hFc hKc hPc hDc⟩ rfl rfl hl.1 rfl (lv_room (Nat.le_of_ble_eq_true rfl)) dL_feed_9 ⟨Nat.le_of_ble_eq_true rfl, Nat.le_of_ble_eq_true rfl⟩) hP hD hS hFc [0, 1, 2] [3] rfl rfl (by decide) (by decide) (fun hcd E ce q9 H locs hE hP hD hS hce hcv hcl => ?_) (fun hcd H locs hP hD hS => ?_)
  · have hP : va_P (dC, dI) kcl [(o, .inl (cG, 1, .inr (.inl G))), (x, .inr (4, [.ref t0, .ref w0, .ref r0, .ref m0, .ref k0, .int (bI tt), .int lf])), (t0, .inr (0, [.ref tb, .int (nI (fdR ft nt p1 p2 p3 p4).2.2.2)])), (tb, .inl (cT, 242, .inl (fdR ft nt p1 p2 p3 p4).2.2.1))] H := hP
    have hD : va_D A [(o, .inl (cG, 1, .inr (.inl G))), (x, .inr (4, [.ref t0, .ref w0, .ref r0, .ref m0, .ref k0, .int (bI tt), .int lf])), (t0, .inr (0, [.ref tb, .int (nI (fdR ft nt p1 p2 p3 p4).2.2.2)])), (tb, .inl (cT, 242, .inl (fdR ft nt p1 p2 p3 p4).2.2.1))] := hD
    rcases fdR_cd with h9 | h9
    · exact absurd h9 hcd
    · have hE : E = "java/lang/IllegalStateException" := by rw [hE, h9]; rfl
      subst hE
      refine vx_catch hown [] ⟨0, 14, 17, 13⟩ [] (hTab.trans rfl) (fun z hz => by cases hz) (by decide) (by decide) (hts _ (kcm kwm_323)) (kg_use hG (List.mem_of_getElem? (i := 26) (a := Cond.castable "java/lang/IllegalStateException" "java/lang/IllegalStateException") rfl)) hce hcv hcl ?_
      refine lv_astore (lv' := [(6, .ref q9), (0, .ref x), (1, .int p1), (2, .int p2), (3, .int p3), (4, .int p4), (5, .ref o)]) hx hb dL_feed_17 hl (by decide) rfl (fun ls hl => ?_)
      refine lv_iconst (v := 1) hx hb dL_feed_19 (by decide) ?_
      have hP9 : va_P (dC, dI) kcl [(x, .inr (4, [.ref t0, .ref w0, .ref r0, .ref m0, .ref k0, .int (bI tt), .int lf])), (t0, .inr (0, [.ref tb, .int (nI (fdR ft nt p1 p2 p3 p4).2.2.2)])), (tb, .inl (cT, 242, .inl (fdR ft nt p1 p2 p3 p4).2.2.1)), (o, .inl (cG, 1, .inr (.inl (wo (fdR ft nt p1 p2 p3 p4).1 G (fdR ft nt p1 p2 p3 p4).2.1.toInt64))))] H := by
        simp only [wo, if_neg hcd]
        exact hP.sub [1, 2, 3, 0] rfl
      have hD9 : va_D A [(x, .inr (4, [.ref t0, .ref w0, .ref r0, .ref m0, .ref k0, .int (bI tt), .int lf])), (t0, .inr (0, [.ref tb, .int (nI (fdR ft nt p1 p2 p3 p4).2.2.2)])), (tb, .inl (cT, 242, .inl (fdR ft nt p1 p2 p3 p4).2.2.1)), (o, .inl (cG, 1, .inr (.inl (wo (fdR ft nt p1 p2 p3 p4).1 G (fdR ft nt p1 p2 p3 p4).2.1.toInt64))))] := by
        simp only [wo, if_neg hcd]
        exact hD.sub [1, 2, 3, 0] (by decide) rfl
      have hv9 : (1 : Int32) = wk 1 (fdR ft nt p1 p2 p3 p4).1 := by
        first | (rw [wk, if_neg hcd, h9]; done) | (rw [wk, if_neg hcd, h9]; rfl)
        try rfl
      exact kc_iret hx hb hr hlocks hv9 hP9 hD9 hS dL_feed_20
  · have hP : va_P (dC, dI) kcl [(o, .inl (cG, 1, .inr (.inl G))), (x, .inr (4, [.ref t0, .ref w0, .ref r0, .ref m0, .ref k0, .int (bI tt), .int lf])), (t0, .inr (0, [.ref tb, .int (nI (fdR ft nt p1 p2 p3 p4).2.2.2)])), (tb, .inl (cT, 242, .inl (fdR ft nt p1 p2 p3 p4).2.2.1))] H := hP
    have hD : va_D A [(o, .inl (cG, 1, .inr (.inl G))), (x, .inr (4, [.ref t0, .ref w0, .ref r0, .ref m0, .ref k0, .int (bI tt), .int lf])), (t0, .inr (0, [.ref tb, .int (nI (fdR ft nt p1 p2 p3 p4).2.2.2)])), (tb, .inl (cT, 242, .inl (fdR ft nt p1 p2 p3 p4).2.2.1))] := hD
    refine lv_i2l (v := (fdR ft nt p1 p2 p3 p4).2.1.toInt64) hx hb dL_feed_12 rfl ?_
    refine va_last hx hb hK hP hD hS 0 1 rfl rfl (vp_in_nI (n := 0) (by decide) (by decide)) dL_feed_13 (fun H locs hP hD hS => ?_)
    have hP : va_P (dC, dI) kcl [(o, .inl (cG, 1, .inr (.inl (vp_updL G 0 (fdR ft nt p1 p2 p3 p4).2.1.toInt64)))), (x, .inr (4, [.ref t0, .ref w0, .ref r0, .ref m0, .ref k0, .int (bI tt), .int lf])), (t0, .inr (0, [.ref tb, .int (nI (fdR ft nt p1 p2 p3 p4).2.2.2)])), (tb, .inl (cT, 242, .inl (fdR ft nt p1 p2 p3 p4).2.2.1))] H := hP
    have hD : va_D A [(o, .inl (cG, 1, .inr (.inl (vp_updL G 0 (fdR ft nt p1 p2 p3 p4).2.1.toInt64)))), (x, .inr (4, [.ref t0, .ref w0, .ref r0, .ref m0, .ref k0, .int (bI tt), .int lf])), (t0, .inr (0, [.ref tb, .int (nI (fdR ft nt p1 p2 p3 p4).2.2.2)])), (tb, .inl (cT, 242, .inl (fdR ft nt p1 p2 p3 p4).2.2.1))] := hD
    refine lv_goto (tgt := 21) hx hb dL_feed_14 (by decide) ?_
    refine lv_iconst (v := 0) hx hb dL_feed_21 (by decide) ?_
    have hP9 : va_P (dC, dI) kcl [(x, .inr (4, [.ref t0, .ref w0, .ref r0, .ref m0, .ref k0, .int (bI tt), .int lf])), (t0, .inr (0, [.ref tb, .int (nI (fdR ft nt p1 p2 p3 p4).2.2.2)])), (tb, .inl (cT, 242, .inl (fdR ft nt p1 p2 p3 p4).2.2.1)), (o, .inl (cG, 1, .inr (.inl (wo (fdR ft nt p1 p2 p3 p4).1 G (fdR ft nt p1 p2 p3 p4).2.1.toInt64))))] H := by
      simp only [wo, if_pos hcd]
      exact hP.sub [1, 2, 3, 0] rfl
    have hD9 : va_D A [(x, .inr (4, [.ref t0, .ref w0, .ref r0, .ref m0, .ref k0, .int (bI tt), .int lf])), (t0, .inr (0, [.ref tb, .int (nI (fdR ft nt p1 p2 p3 p4).2.2.2)])), (tb, .inl (cT, 242, .inl (fdR ft nt p1 p2 p3 p4).2.2.1)), (o, .inl (cG, 1, .inr (.inl (wo (fdR ft nt p1 p2 p3 p4).1 G (fdR ft nt p1 p2 p3 p4).2.1.toInt64))))] := by
      simp only [wo, if_pos hcd]
      exact hD.sub [1, 2, 3, 0] (by decide) rfl
    have hv9 : (0 : Int32) = wk 1 (fdR ft nt p1 p2 p3 p4).1 := by
      first | (rw [wk, if_pos hcd]; done) | (rw [wk, if_pos hcd]; rfl)
      try rfl
    exact kc_iret hx hb hr hlocks hv9 hP9 hD9 hS dL_feed_22
set_option maxHeartbeats 4000000 in
set_option maxRecDepth 100000 in
theorem w_end (l : Launch) (hl9 : l.stackTraces = false) (dC : Nat → ClassId) (dI : Nat → Nat → Nat) (st sz : Nat) (x : Nat) (t0 : Nat) (w0 : Nat) (r0 : Nat) (m0 : Nat) (k0 : Nat) (tt : Bool) (lf : Int32) (tb : Nat) (cT : ClassId) (ft : Nat → Int32) (nt : Nat) (p1 : Int32) (o : Nat) (cG : ClassId) (G : Nat → Int64) (ht : nt ≤ 242) : Met l yL_end wsL_end ({ frames := 7, cells := 1, slots := 6, locals := 111 }) (kn_Pc (dC, dI) kcl st sz [.ref x, .int p1, .ref o] [(x, .inr (4, [.ref t0, .ref w0, .ref r0, .ref m0, .ref k0, .int (bI tt), .int lf])), (t0, .inr (0, [.ref tb, .int (nI nt)])), (tb, .inl (cT, 242, .inl ft)), (o, .inl (cG, 1, .inr (.inl G)))] [(cT, .byte), (cG, .long)]) (kc_Qi (dC, dI) kcl (wk 2 (enR nt p1).1) [(x, .inr (4, [.ref t0, .ref w0, .ref r0, .ref m0, .ref k0, .int (bI tt), .int lf])), (t0, .inr (0, [.ref tb, .int (nI (enR nt p1).2.2)])), (tb, .inl (cT, 242, .inl ft)), (o, .inl (cG, 1, .inr (.inl (wo (enR nt p1).1 G (enR nt p1).2.1.toInt64))))] (va_A [(x, .inr (4, [.ref t0, .ref w0, .ref r0, .ref m0, .ref k0, .int (bI tt), .int lf])), (t0, .inr (0, [.ref tb, .int (nI nt)])), (tb, .inl (cT, 242, .inl ft)), (o, .inl (cG, 1, .inr (.inl G)))] sz)) 1 6 (va_A [(x, .inr (4, [.ref t0, .ref w0, .ref r0, .ref m0, .ref k0, .int (bI tt), .int lf])), (t0, .inr (0, [.ref tb, .int (nI nt)])), (tb, .inl (cT, 242, .inl ft)), (o, .inl (cG, 1, .inr (.inl G)))] sz) := by
  refine kl_ofH (Qc := fun A => (kc_Qi (dC, dI) kcl (wk 2 (enR nt p1).1) [(x, .inr (4, [.ref t0, .ref w0, .ref r0, .ref m0, .ref k0, .int (bI tt), .int lf])), (t0, .inr (0, [.ref tb, .int (nI (enR nt p1).2.2)])), (tb, .inl (cT, 242, .inl ft)), (o, .inl (cG, 1, .inr (.inl (wo (enR nt p1).1 G (enR nt p1).2.1.toInt64))))] A)) (cc := cL_end) (maxL := 4) (ret := (some .int)) (by decide) rfl (Nat.le_of_ble_eq_true rfl) ?_
  intro p e s m below meth c A ls Cx hTab hN hA hG hK hP hD hS hl
  obtain ⟨hx, hb, hr, hml, hown, hts, hlocks, hnm⟩ := id Cx
  have hl : lv_has ls 4 [(0, .ref x), (1, .int p1), (2, .ref o)] := hl
  refine lv_aload_n hx hb dL_end_0 rfl (lv_at hl 2 rfl) ?_
  refine lv_iconst (v := 0) hx hb dL_end_1 (by decide) ?_
  refine lv_aload_n hx hb dL_end_2 rfl (lv_at hl 0 rfl) ?_
  refine lv_iload_n hx hb dL_end_3 rfl (lv_at hl 1 rfl) ?_
  have hPc := hP.sub (ws' := [(x, .inr (4, [.ref t0, .ref w0, .ref r0, .ref m0, .ref k0, .int (bI tt), .int lf])), (t0, .inr (0, [.ref tb, .int (nI nt)])), (tb, .inl (cT, 242, .inl ft))]) [0, 1, 2] rfl
  have hDc := hD.sub (ws' := [(x, .inr (4, [.ref t0, .ref w0, .ref r0, .ref m0, .ref k0, .int (bI tt), .int lf])), (t0, .inr (0, [.ref tb, .int (nI nt)])), (tb, .inl (cT, 242, .inl ft))]) [0, 1, 2] (by decide) rfl
  have hKc := hK.sub (tys' := [(cT, .byte)]) [0] rfl
  have hFc := va_free (wc := [(x, .inr (4, [.ref t0, .ref w0, .ref r0, .ref m0, .ref k0, .int (bI tt), .int lf])), (t0, .inr (0, [.ref tb, .int (nI nt)])), (tb, .inl (cT, 242, .inl ft))]) hD hS hA [0, 1, 2] rfl
  refine kx_calli (code := (enR nt p1).1) (val := (enR nt p1).2.1) (wr := [(o, .inl (cG, 1, .inr (.inl G)))]) (w1 := [(x, .inr (4, [.ref t0, .ref w0, .ref r0, .ref m0, .ref k0, .int (bI tt), .int lf])), (t0, .inr (0, [.ref tb, .int (nI (enR nt p1).2.2)])), (tb, .inl (cT, 242, .inl ft))]) (vx_runV (As := [.int p1]) (rest := [.int 0, .ref o]) ⟨hx, hb, hml, hown, hts⟩ (c_CT_end l hl9 dC dI st s.heap.size x t0 w0 r0 m0 k0 tt lf tb cT ft nt p1 ht) (cwV 1 hts (kwV kwm_307 kwm_308 kwm_309 kwm_14 kwm_310) rfl rfl rfl (by decide +kernel) ⟨Nat.le_of_ble_eq_true rfl, Nat.le_of_ble_eq_true rfl⟩) ⟨kc_blind, va_recv hKc hPc (ci := 4) (q0 := 0) rfl rfl, kc_pre hG hS hFc hKc hPc hDc⟩ rfl rfl hl.1 rfl (lv_room (Nat.le_of_ble_eq_true rfl)) dL_end_4 ⟨Nat.le_of_ble_eq_true rfl, Nat.le_of_ble_eq_true rfl⟩) hP hD hS hFc [0, 1, 2] [3] rfl rfl (by decide) (by decide) (fun hcd E ce q9 H locs hE hP hD hS hce hcv hcl => ?_) (fun hcd H locs hP hD hS => ?_)
  · have hP : va_P (dC, dI) kcl [(o, .inl (cG, 1, .inr (.inl G))), (x, .inr (4, [.ref t0, .ref w0, .ref r0, .ref m0, .ref k0, .int (bI tt), .int lf])), (t0, .inr (0, [.ref tb, .int (nI (enR nt p1).2.2)])), (tb, .inl (cT, 242, .inl ft))] H := hP
    have hD : va_D A [(o, .inl (cG, 1, .inr (.inl G))), (x, .inr (4, [.ref t0, .ref w0, .ref r0, .ref m0, .ref k0, .int (bI tt), .int lf])), (t0, .inr (0, [.ref tb, .int (nI (enR nt p1).2.2)])), (tb, .inl (cT, 242, .inl ft))] := hD
    rcases enR_cd with h9 | h9 | h9
    · exact absurd h9 hcd
    · have hE : E = "java/lang/IllegalArgumentException" := by rw [hE, h9]; rfl
      subst hE
      refine vx_catch hown [] ⟨0, 9, 12, 19⟩ [⟨0, 9, 15, 13⟩] (hTab.trans rfl) (fun z hz => by cases hz) (by decide) (by decide) (hts _ (kcm kwm_324)) (kg_use hG (List.mem_of_getElem? (i := 27) (a := Cond.castable "java/lang/IllegalArgumentException" "java/lang/IllegalArgumentException") rfl)) hce hcv hcl ?_
      refine lv_astore_n (lv' := [(3, .ref q9), (0, .ref x), (1, .int p1), (2, .ref o)]) hx hb dL_end_12 rfl hl (by decide) rfl (fun ls hl => ?_)
      refine lv_iconst (v := 1) hx hb dL_end_13 (by decide) ?_
      have hP9 : va_P (dC, dI) kcl [(x, .inr (4, [.ref t0, .ref w0, .ref r0, .ref m0, .ref k0, .int (bI tt), .int lf])), (t0, .inr (0, [.ref tb, .int (nI (enR nt p1).2.2)])), (tb, .inl (cT, 242, .inl ft)), (o, .inl (cG, 1, .inr (.inl (wo (enR nt p1).1 G (enR nt p1).2.1.toInt64))))] H := by
        simp only [wo, if_neg hcd]
        exact hP.sub [1, 2, 3, 0] rfl
      have hD9 : va_D A [(x, .inr (4, [.ref t0, .ref w0, .ref r0, .ref m0, .ref k0, .int (bI tt), .int lf])), (t0, .inr (0, [.ref tb, .int (nI (enR nt p1).2.2)])), (tb, .inl (cT, 242, .inl ft)), (o, .inl (cG, 1, .inr (.inl (wo (enR nt p1).1 G (enR nt p1).2.1.toInt64))))] := by
        simp only [wo, if_neg hcd]
        exact hD.sub [1, 2, 3, 0] (by decide) rfl
      have hv9 : (1 : Int32) = wk 2 (enR nt p1).1 := by
        first | (rw [wk, if_neg hcd, h9]; done) | (rw [wk, if_neg hcd, h9]; rfl)
        try rfl
      exact kc_iret hx hb hr hlocks hv9 hP9 hD9 hS dL_end_14
    · have hE : E = "java/lang/IllegalStateException" := by rw [hE, h9]; rfl
      subst hE
      refine vx_catch hown [⟨0, 9, 12, 19⟩] ⟨0, 9, 15, 13⟩ [] (hTab.trans rfl) (fun z hz => by rcases List.mem_singleton.mp hz with rfl; exact Or.inr ⟨by decide, _, hts _ (kcm kwm_324), hN.1⟩) (by decide) (by decide) (hts _ (kcm kwm_323)) (kg_use hG (List.mem_of_getElem? (i := 26) (a := Cond.castable "java/lang/IllegalStateException" "java/lang/IllegalStateException") rfl)) hce hcv hcl ?_
      refine lv_astore_n (lv' := [(3, .ref q9), (0, .ref x), (1, .int p1), (2, .ref o)]) hx hb dL_end_15 rfl hl (by decide) rfl (fun ls hl => ?_)
      refine lv_iconst (v := 2) hx hb dL_end_16 (by decide) ?_
      have hP9 : va_P (dC, dI) kcl [(x, .inr (4, [.ref t0, .ref w0, .ref r0, .ref m0, .ref k0, .int (bI tt), .int lf])), (t0, .inr (0, [.ref tb, .int (nI (enR nt p1).2.2)])), (tb, .inl (cT, 242, .inl ft)), (o, .inl (cG, 1, .inr (.inl (wo (enR nt p1).1 G (enR nt p1).2.1.toInt64))))] H := by
        simp only [wo, if_neg hcd]
        exact hP.sub [1, 2, 3, 0] rfl
      have hD9 : va_D A [(x, .inr (4, [.ref t0, .ref w0, .ref r0, .ref m0, .ref k0, .int (bI tt), .int lf])), (t0, .inr (0, [.ref tb, .int (nI (enR nt p1).2.2)])), (tb, .inl (cT, 242, .inl ft)), (o, .inl (cG, 1, .inr (.inl (wo (enR nt p1).1 G (enR nt p1).2.1.toInt64))))] := by
        simp only [wo, if_neg hcd]
        exact hD.sub [1, 2, 3, 0] (by decide) rfl
      have hv9 : (2 : Int32) = wk 2 (enR nt p1).1 := by
        first | (rw [wk, if_neg hcd, h9]; done) | (rw [wk, if_neg hcd, h9]; rfl)
        try rfl
      exact kc_iret hx hb hr hlocks hv9 hP9 hD9 hS dL_end_17
  · have hP : va_P (dC, dI) kcl [(o, .inl (cG, 1, .inr (.inl G))), (x, .inr (4, [.ref t0, .ref w0, .ref r0, .ref m0, .ref k0, .int (bI tt), .int lf])), (t0, .inr (0, [.ref tb, .int (nI (enR nt p1).2.2)])), (tb, .inl (cT, 242, .inl ft))] H := hP
    have hD : va_D A [(o, .inl (cG, 1, .inr (.inl G))), (x, .inr (4, [.ref t0, .ref w0, .ref r0, .ref m0, .ref k0, .int (bI tt), .int lf])), (t0, .inr (0, [.ref tb, .int (nI (enR nt p1).2.2)])), (tb, .inl (cT, 242, .inl ft))] := hD
    refine lv_i2l (v := (enR nt p1).2.1.toInt64) hx hb dL_end_7 rfl ?_
    refine va_last hx hb hK hP hD hS 0 1 rfl rfl (vp_in_nI (n := 0) (by decide) (by decide)) dL_end_8 (fun H locs hP hD hS => ?_)
    have hP : va_P (dC, dI) kcl [(o, .inl (cG, 1, .inr (.inl (vp_updL G 0 (enR nt p1).2.1.toInt64)))), (x, .inr (4, [.ref t0, .ref w0, .ref r0, .ref m0, .ref k0, .int (bI tt), .int lf])), (t0, .inr (0, [.ref tb, .int (nI (enR nt p1).2.2)])), (tb, .inl (cT, 242, .inl ft))] H := hP
    have hD : va_D A [(o, .inl (cG, 1, .inr (.inl (vp_updL G 0 (enR nt p1).2.1.toInt64)))), (x, .inr (4, [.ref t0, .ref w0, .ref r0, .ref m0, .ref k0, .int (bI tt), .int lf])), (t0, .inr (0, [.ref tb, .int (nI (enR nt p1).2.2)])), (tb, .inl (cT, 242, .inl ft))] := hD
    refine lv_goto (tgt := 18) hx hb dL_end_9 (by decide) ?_
    refine lv_iconst (v := 0) hx hb dL_end_18 (by decide) ?_
    have hP9 : va_P (dC, dI) kcl [(x, .inr (4, [.ref t0, .ref w0, .ref r0, .ref m0, .ref k0, .int (bI tt), .int lf])), (t0, .inr (0, [.ref tb, .int (nI (enR nt p1).2.2)])), (tb, .inl (cT, 242, .inl ft)), (o, .inl (cG, 1, .inr (.inl (wo (enR nt p1).1 G (enR nt p1).2.1.toInt64))))] H := by
      simp only [wo, if_pos hcd]
      exact hP.sub [1, 2, 3, 0] rfl
    have hD9 : va_D A [(x, .inr (4, [.ref t0, .ref w0, .ref r0, .ref m0, .ref k0, .int (bI tt), .int lf])), (t0, .inr (0, [.ref tb, .int (nI (enR nt p1).2.2)])), (tb, .inl (cT, 242, .inl ft)), (o, .inl (cG, 1, .inr (.inl (wo (enR nt p1).1 G (enR nt p1).2.1.toInt64))))] := by
      simp only [wo, if_pos hcd]
      exact hD.sub [1, 2, 3, 0] (by decide) rfl
    have hv9 : (0 : Int32) = wk 2 (enR nt p1).1 := by
      first | (rw [wk, if_pos hcd]; done) | (rw [wk, if_pos hcd]; rfl)
      try rfl
    exact kc_iret hx hb hr hlocks hv9 hP9 hD9 hS dL_end_19
set_option maxHeartbeats 4000000 in
set_option maxRecDepth 100000 in
theorem w_out (l : Launch) (hl9 : l.stackTraces = false) (dC : Nat → ClassId) (dI : Nat → Nat → Nat) (st sz : Nat) (x : Nat) (t0 : Nat) (w0 : Nat) (r0 : Nat) (m0 : Nat) (k0 : Nat) (tt : Bool) (lf : Int32) (wb : Nat) (cV : ClassId) (fw : Nat → Int32) (nw : Nat) (p1 : Int32) (o : Nat) (cG : ClassId) (G : Nat → Int64) (hw : nw ≤ 242) : Met l yL_out wsL_out ({ frames := 7, cells := 1, slots := 6, locals := 111 }) (kn_Pc (dC, dI) kcl st sz [.ref x, .int p1, .ref o] [(x, .inr (4, [.ref t0, .ref w0, .ref r0, .ref m0, .ref k0, .int (bI tt), .int lf])), (w0, .inr (0, [.ref wb, .int (nI nw)])), (wb, .inl (cV, 242, .inl fw)), (o, .inl (cG, 1, .inr (.inl G)))] [(cV, .byte), (cG, .long)]) (kc_Qi (dC, dI) kcl (wk 3 (otR fw nw p1).1) [(x, .inr (4, [.ref t0, .ref w0, .ref r0, .ref m0, .ref k0, .int (bI tt), .int lf])), (w0, .inr (0, [.ref wb, .int (nI nw)])), (wb, .inl (cV, 242, .inl fw)), (o, .inl (cG, 1, .inr (.inl (wo (otR fw nw p1).1 G (otR fw nw p1).2.toInt64))))] (va_A [(x, .inr (4, [.ref t0, .ref w0, .ref r0, .ref m0, .ref k0, .int (bI tt), .int lf])), (w0, .inr (0, [.ref wb, .int (nI nw)])), (wb, .inl (cV, 242, .inl fw)), (o, .inl (cG, 1, .inr (.inl G)))] sz)) 1 6 (va_A [(x, .inr (4, [.ref t0, .ref w0, .ref r0, .ref m0, .ref k0, .int (bI tt), .int lf])), (w0, .inr (0, [.ref wb, .int (nI nw)])), (wb, .inl (cV, 242, .inl fw)), (o, .inl (cG, 1, .inr (.inl G)))] sz) := by
  refine kl_ofH (Qc := fun A => (kc_Qi (dC, dI) kcl (wk 3 (otR fw nw p1).1) [(x, .inr (4, [.ref t0, .ref w0, .ref r0, .ref m0, .ref k0, .int (bI tt), .int lf])), (w0, .inr (0, [.ref wb, .int (nI nw)])), (wb, .inl (cV, 242, .inl fw)), (o, .inl (cG, 1, .inr (.inl (wo (otR fw nw p1).1 G (otR fw nw p1).2.toInt64))))] A)) (cc := cL_out) (maxL := 4) (ret := (some .int)) (by decide) rfl (Nat.le_of_ble_eq_true rfl) ?_
  intro p e s m below meth c A ls Cx hTab hN hA hG hK hP hD hS hl
  obtain ⟨hx, hb, hr, hml, hown, hts, hlocks, hnm⟩ := id Cx
  have hl : lv_has ls 4 [(0, .ref x), (1, .int p1), (2, .ref o)] := hl
  refine lv_aload_n hx hb dL_out_0 rfl (lv_at hl 2 rfl) ?_
  refine lv_iconst (v := 0) hx hb dL_out_1 (by decide) ?_
  refine lv_aload_n hx hb dL_out_2 rfl (lv_at hl 0 rfl) ?_
  refine lv_iload_n hx hb dL_out_3 rfl (lv_at hl 1 rfl) ?_
  have hPc := hP.sub (ws' := [(x, .inr (4, [.ref t0, .ref w0, .ref r0, .ref m0, .ref k0, .int (bI tt), .int lf])), (w0, .inr (0, [.ref wb, .int (nI nw)])), (wb, .inl (cV, 242, .inl fw))]) [0, 1, 2] rfl
  have hDc := hD.sub (ws' := [(x, .inr (4, [.ref t0, .ref w0, .ref r0, .ref m0, .ref k0, .int (bI tt), .int lf])), (w0, .inr (0, [.ref wb, .int (nI nw)])), (wb, .inl (cV, 242, .inl fw))]) [0, 1, 2] (by decide) rfl
  have hKc := hK.sub (tys' := [(cV, .byte)]) [0] rfl
  have hFc := va_free (wc := [(x, .inr (4, [.ref t0, .ref w0, .ref r0, .ref m0, .ref k0, .int (bI tt), .int lf])), (w0, .inr (0, [.ref wb, .int (nI nw)])), (wb, .inl (cV, 242, .inl fw))]) hD hS hA [0, 1, 2] rfl
  refine kx_calli (code := (otR fw nw p1).1) (val := (otR fw nw p1).2) (wr := [(o, .inl (cG, 1, .inr (.inl G)))]) (w1 := [(x, .inr (4, [.ref t0, .ref w0, .ref r0, .ref m0, .ref k0, .int (bI tt), .int lf])), (w0, .inr (0, [.ref wb, .int (nI nw)])), (wb, .inl (cV, 242, .inl fw))]) (vx_runV (As := [.int p1]) (rest := [.int 0, .ref o]) ⟨hx, hb, hml, hown, hts⟩ (c_CT_out l hl9 dC dI st s.heap.size x t0 w0 r0 m0 k0 tt lf wb cV fw nw p1 hw) (cwV 1 hts (kwV kwm_311 kwm_312 kwm_313 kwm_14 kwm_314) rfl rfl rfl (by decide +kernel) ⟨Nat.le_of_ble_eq_true rfl, Nat.le_of_ble_eq_true rfl⟩) ⟨kc_blind, va_recv hKc hPc (ci := 4) (q0 := 0) rfl rfl, kc_pre hG hS hFc hKc hPc hDc⟩ rfl rfl hl.1 rfl (lv_room (Nat.le_of_ble_eq_true rfl)) dL_out_4 ⟨Nat.le_of_ble_eq_true rfl, Nat.le_of_ble_eq_true rfl⟩) hP hD hS hFc [0, 1, 2] [3] rfl rfl (by decide) (by decide) (fun hcd E ce q9 H locs hE hP hD hS hce hcv hcl => ?_) (fun hcd H locs hP hD hS => ?_)
  · have hP : va_P (dC, dI) kcl [(o, .inl (cG, 1, .inr (.inl G))), (x, .inr (4, [.ref t0, .ref w0, .ref r0, .ref m0, .ref k0, .int (bI tt), .int lf])), (w0, .inr (0, [.ref wb, .int (nI nw)])), (wb, .inl (cV, 242, .inl fw))] H := hP
    have hD : va_D A [(o, .inl (cG, 1, .inr (.inl G))), (x, .inr (4, [.ref t0, .ref w0, .ref r0, .ref m0, .ref k0, .int (bI tt), .int lf])), (w0, .inr (0, [.ref wb, .int (nI nw)])), (wb, .inl (cV, 242, .inl fw))] := hD
    rcases otR_cd with h9 | h9
    · exact absurd h9 hcd
    · have hE : E = "java/lang/IndexOutOfBoundsException" := by rw [hE, h9]; rfl
      subst hE
      refine vx_catch hown [] ⟨0, 9, 12, 27⟩ [] (hTab.trans rfl) (fun z hz => by cases hz) (by decide) (by decide) (hts _ (kcm kwm_325)) (kg_use hG (List.mem_of_getElem? (i := 28) (a := Cond.castable "java/lang/IndexOutOfBoundsException" "java/lang/IndexOutOfBoundsException") rfl)) hce hcv hcl ?_
      refine lv_astore_n (lv' := [(3, .ref q9), (0, .ref x), (1, .int p1), (2, .ref o)]) hx hb dL_out_12 rfl hl (by decide) rfl (fun ls hl => ?_)
      refine lv_iconst (v := 1) hx hb dL_out_13 (by decide) ?_
      have hP9 : va_P (dC, dI) kcl [(x, .inr (4, [.ref t0, .ref w0, .ref r0, .ref m0, .ref k0, .int (bI tt), .int lf])), (w0, .inr (0, [.ref wb, .int (nI nw)])), (wb, .inl (cV, 242, .inl fw)), (o, .inl (cG, 1, .inr (.inl (wo (otR fw nw p1).1 G (otR fw nw p1).2.toInt64))))] H := by
        simp only [wo, if_neg hcd]
        exact hP.sub [1, 2, 3, 0] rfl
      have hD9 : va_D A [(x, .inr (4, [.ref t0, .ref w0, .ref r0, .ref m0, .ref k0, .int (bI tt), .int lf])), (w0, .inr (0, [.ref wb, .int (nI nw)])), (wb, .inl (cV, 242, .inl fw)), (o, .inl (cG, 1, .inr (.inl (wo (otR fw nw p1).1 G (otR fw nw p1).2.toInt64))))] := by
        simp only [wo, if_neg hcd]
        exact hD.sub [1, 2, 3, 0] (by decide) rfl
      have hv9 : (1 : Int32) = wk 3 (otR fw nw p1).1 := by
        first | (rw [wk, if_neg hcd, h9]; done) | (rw [wk, if_neg hcd, h9]; rfl)
        try rfl
      exact kc_iret hx hb hr hlocks hv9 hP9 hD9 hS dL_out_14
  · have hP : va_P (dC, dI) kcl [(o, .inl (cG, 1, .inr (.inl G))), (x, .inr (4, [.ref t0, .ref w0, .ref r0, .ref m0, .ref k0, .int (bI tt), .int lf])), (w0, .inr (0, [.ref wb, .int (nI nw)])), (wb, .inl (cV, 242, .inl fw))] H := hP
    have hD : va_D A [(o, .inl (cG, 1, .inr (.inl G))), (x, .inr (4, [.ref t0, .ref w0, .ref r0, .ref m0, .ref k0, .int (bI tt), .int lf])), (w0, .inr (0, [.ref wb, .int (nI nw)])), (wb, .inl (cV, 242, .inl fw))] := hD
    refine lv_i2l (v := (otR fw nw p1).2.toInt64) hx hb dL_out_7 rfl ?_
    refine va_last hx hb hK hP hD hS 0 1 rfl rfl (vp_in_nI (n := 0) (by decide) (by decide)) dL_out_8 (fun H locs hP hD hS => ?_)
    have hP : va_P (dC, dI) kcl [(o, .inl (cG, 1, .inr (.inl (vp_updL G 0 (otR fw nw p1).2.toInt64)))), (x, .inr (4, [.ref t0, .ref w0, .ref r0, .ref m0, .ref k0, .int (bI tt), .int lf])), (w0, .inr (0, [.ref wb, .int (nI nw)])), (wb, .inl (cV, 242, .inl fw))] H := hP
    have hD : va_D A [(o, .inl (cG, 1, .inr (.inl (vp_updL G 0 (otR fw nw p1).2.toInt64)))), (x, .inr (4, [.ref t0, .ref w0, .ref r0, .ref m0, .ref k0, .int (bI tt), .int lf])), (w0, .inr (0, [.ref wb, .int (nI nw)])), (wb, .inl (cV, 242, .inl fw))] := hD
    refine lv_goto (tgt := 15) hx hb dL_out_9 (by decide) ?_
    refine lv_iconst (v := 0) hx hb dL_out_15 (by decide) ?_
    have hP9 : va_P (dC, dI) kcl [(x, .inr (4, [.ref t0, .ref w0, .ref r0, .ref m0, .ref k0, .int (bI tt), .int lf])), (w0, .inr (0, [.ref wb, .int (nI nw)])), (wb, .inl (cV, 242, .inl fw)), (o, .inl (cG, 1, .inr (.inl (wo (otR fw nw p1).1 G (otR fw nw p1).2.toInt64))))] H := by
      simp only [wo, if_pos hcd]
      exact hP.sub [1, 2, 3, 0] rfl
    have hD9 : va_D A [(x, .inr (4, [.ref t0, .ref w0, .ref r0, .ref m0, .ref k0, .int (bI tt), .int lf])), (w0, .inr (0, [.ref wb, .int (nI nw)])), (wb, .inl (cV, 242, .inl fw)), (o, .inl (cG, 1, .inr (.inl (wo (otR fw nw p1).1 G (otR fw nw p1).2.toInt64))))] := by
      simp only [wo, if_pos hcd]
      exact hD.sub [1, 2, 3, 0] (by decide) rfl
    have hv9 : (0 : Int32) = wk 3 (otR fw nw p1).1 := by
      first | (rw [wk, if_pos hcd]; done) | (rw [wk, if_pos hcd]; rfl)
      try rfl
    exact kc_iret hx hb hr hlocks hv9 hP9 hD9 hS dL_out_16
set_option maxHeartbeats 4000000 in
set_option maxRecDepth 100000 in
theorem w_again (l : Launch) (hl9 : l.stackTraces = false) (dC : Nat → ClassId) (dI : Nat → Nat → Nat) (st sz : Nat) (x : Nat) (t0 : Nat) (w0 : Nat) (r0 : Nat) (m0 : Nat) (k0 : Nat) (tt : Bool) (lf : Int32) (tb : Nat) (cT : ClassId) (ft : Nat → Int32) (nt : Nat) (wb : Nat) (cV : ClassId) (fw : Nat → Int32) (nw : Nat) (o : Nat) (cG : ClassId) (G : Nat → Int64) (hw : nw ≤ 242) : Met l yL_again wsL_again ({ frames := 7, cells := 1, slots := 6, locals := 111 }) (kn_Pc (dC, dI) kcl st sz [.ref x, .ref o] [(x, .inr (4, [.ref t0, .ref w0, .ref r0, .ref m0, .ref k0, .int (bI tt), .int lf])), (t0, .inr (0, [.ref tb, .int (nI nt)])), (tb, .inl (cT, 242, .inl ft)), (w0, .inr (0, [.ref wb, .int (nI nw)])), (wb, .inl (cV, 242, .inl fw)), (o, .inl (cG, 1, .inr (.inl G)))] [(cT, .byte), (cV, .byte), (cG, .long)]) (kc_Qi (dC, dI) kcl (wk 1 (agR tt fw nw ft nt).1) [(x, .inr (4, [.ref t0, .ref w0, .ref r0, .ref m0, .ref k0, .int (bI tt), .int lf])), (t0, .inr (0, [.ref tb, .int (nI (agR tt fw nw ft nt).2.2.2)])), (tb, .inl (cT, 242, .inl (agR tt fw nw ft nt).2.2.1)), (w0, .inr (0, [.ref wb, .int (nI nw)])), (wb, .inl (cV, 242, .inl fw)), (o, .inl (cG, 1, .inr (.inl (wo (agR tt fw nw ft nt).1 G (agR tt fw nw ft nt).2.1.toInt64))))] (va_A [(x, .inr (4, [.ref t0, .ref w0, .ref r0, .ref m0, .ref k0, .int (bI tt), .int lf])), (t0, .inr (0, [.ref tb, .int (nI nt)])), (tb, .inl (cT, 242, .inl ft)), (w0, .inr (0, [.ref wb, .int (nI nw)])), (wb, .inl (cV, 242, .inl fw)), (o, .inl (cG, 1, .inr (.inl G)))] sz)) 1 6 (va_A [(x, .inr (4, [.ref t0, .ref w0, .ref r0, .ref m0, .ref k0, .int (bI tt), .int lf])), (t0, .inr (0, [.ref tb, .int (nI nt)])), (tb, .inl (cT, 242, .inl ft)), (w0, .inr (0, [.ref wb, .int (nI nw)])), (wb, .inl (cV, 242, .inl fw)), (o, .inl (cG, 1, .inr (.inl G)))] sz) := by
  refine kl_ofH (Qc := fun A => (kc_Qi (dC, dI) kcl (wk 1 (agR tt fw nw ft nt).1) [(x, .inr (4, [.ref t0, .ref w0, .ref r0, .ref m0, .ref k0, .int (bI tt), .int lf])), (t0, .inr (0, [.ref tb, .int (nI (agR tt fw nw ft nt).2.2.2)])), (tb, .inl (cT, 242, .inl (agR tt fw nw ft nt).2.2.1)), (w0, .inr (0, [.ref wb, .int (nI nw)])), (wb, .inl (cV, 242, .inl fw)), (o, .inl (cG, 1, .inr (.inl (wo (agR tt fw nw ft nt).1 G (agR tt fw nw ft nt).2.1.toInt64))))] A)) (cc := cL_again) (maxL := 3) (ret := (some .int)) (by decide) rfl (Nat.le_of_ble_eq_true rfl) ?_
  intro p e s m below meth c A ls Cx hTab hN hA hG hK hP hD hS hl
  obtain ⟨hx, hb, hr, hml, hown, hts, hlocks, hnm⟩ := id Cx
  have hl : lv_has ls 3 [(0, .ref x), (1, .ref o)] := hl
  refine lv_aload_n hx hb dL_again_0 rfl (lv_at hl 1 rfl) ?_
  refine lv_iconst (v := 0) hx hb dL_again_1 (by decide) ?_
  refine lv_aload_n hx hb dL_again_2 rfl (lv_at hl 0 rfl) ?_
  have hPc := hP.sub (ws' := [(x, .inr (4, [.ref t0, .ref w0, .ref r0, .ref m0, .ref k0, .int (bI tt), .int lf])), (t0, .inr (0, [.ref tb, .int (nI nt)])), (tb, .inl (cT, 242, .inl ft)), (w0, .inr (0, [.ref wb, .int (nI nw)])), (wb, .inl (cV, 242, .inl fw))]) [0, 1, 2, 3, 4] rfl
  have hDc := hD.sub (ws' := [(x, .inr (4, [.ref t0, .ref w0, .ref r0, .ref m0, .ref k0, .int (bI tt), .int lf])), (t0, .inr (0, [.ref tb, .int (nI nt)])), (tb, .inl (cT, 242, .inl ft)), (w0, .inr (0, [.ref wb, .int (nI nw)])), (wb, .inl (cV, 242, .inl fw))]) [0, 1, 2, 3, 4] (by decide) rfl
  have hKc := hK.sub (tys' := [(cT, .byte), (cV, .byte)]) [0, 1] rfl
  have hFc := va_free (wc := [(x, .inr (4, [.ref t0, .ref w0, .ref r0, .ref m0, .ref k0, .int (bI tt), .int lf])), (t0, .inr (0, [.ref tb, .int (nI nt)])), (tb, .inl (cT, 242, .inl ft)), (w0, .inr (0, [.ref wb, .int (nI nw)])), (wb, .inl (cV, 242, .inl fw))]) hD hS hA [0, 1, 2, 3, 4] rfl
  refine kx_calli (code := (agR tt fw nw ft nt).1) (val := (agR tt fw nw ft nt).2.1) (wr := [(o, .inl (cG, 1, .inr (.inl G)))]) (w1 := [(x, .inr (4, [.ref t0, .ref w0, .ref r0, .ref m0, .ref k0, .int (bI tt), .int lf])), (t0, .inr (0, [.ref tb, .int (nI (agR tt fw nw ft nt).2.2.2)])), (tb, .inl (cT, 242, .inl (agR tt fw nw ft nt).2.2.1)), (w0, .inr (0, [.ref wb, .int (nI nw)])), (wb, .inl (cV, 242, .inl fw))]) (vx_runV (As := []) (rest := [.int 0, .ref o]) ⟨hx, hb, hml, hown, hts⟩ (c_CT_again l hl9 dC dI st s.heap.size x t0 w0 r0 m0 k0 tt lf tb cT ft nt wb cV fw nw hw) (cwV 0 hts (kwV kwm_315 kwm_316 kwm_317 kwm_14 kwm_318) rfl rfl rfl (by decide +kernel) ⟨Nat.le_of_ble_eq_true rfl, Nat.le_of_ble_eq_true rfl⟩) ⟨kc_blind, va_recv hKc hPc (ci := 4) (q0 := 0) rfl rfl, kc_pre hG hS hFc hKc hPc hDc⟩ rfl rfl hl.1 rfl (lv_room (Nat.le_of_ble_eq_true rfl)) dL_again_3 ⟨Nat.le_of_ble_eq_true rfl, Nat.le_of_ble_eq_true rfl⟩) hP hD hS hFc [0, 1, 2, 3, 4] [5] rfl rfl (by decide) (by decide) (fun hcd E ce q9 H locs hE hP hD hS hce hcv hcl => ?_) (fun hcd H locs hP hD hS => ?_)
  · have hP : va_P (dC, dI) kcl [(o, .inl (cG, 1, .inr (.inl G))), (x, .inr (4, [.ref t0, .ref w0, .ref r0, .ref m0, .ref k0, .int (bI tt), .int lf])), (t0, .inr (0, [.ref tb, .int (nI (agR tt fw nw ft nt).2.2.2)])), (tb, .inl (cT, 242, .inl (agR tt fw nw ft nt).2.2.1)), (w0, .inr (0, [.ref wb, .int (nI nw)])), (wb, .inl (cV, 242, .inl fw))] H := hP
    have hD : va_D A [(o, .inl (cG, 1, .inr (.inl G))), (x, .inr (4, [.ref t0, .ref w0, .ref r0, .ref m0, .ref k0, .int (bI tt), .int lf])), (t0, .inr (0, [.ref tb, .int (nI (agR tt fw nw ft nt).2.2.2)])), (tb, .inl (cT, 242, .inl (agR tt fw nw ft nt).2.2.1)), (w0, .inr (0, [.ref wb, .int (nI nw)])), (wb, .inl (cV, 242, .inl fw))] := hD
    rcases agR_cd with h9 | h9
    · exact absurd h9 hcd
    · have hE : E = "java/lang/IllegalStateException" := by rw [hE, h9]; rfl
      subst hE
      refine vx_catch hown [] ⟨0, 8, 11, 13⟩ [] (hTab.trans rfl) (fun z hz => by cases hz) (by decide) (by decide) (hts _ (kcm kwm_323)) (kg_use hG (List.mem_of_getElem? (i := 26) (a := Cond.castable "java/lang/IllegalStateException" "java/lang/IllegalStateException") rfl)) hce hcv hcl ?_
      refine lv_astore_n (lv' := [(2, .ref q9), (0, .ref x), (1, .ref o)]) hx hb dL_again_11 rfl hl (by decide) rfl (fun ls hl => ?_)
      refine lv_iconst (v := 1) hx hb dL_again_12 (by decide) ?_
      have hP9 : va_P (dC, dI) kcl [(x, .inr (4, [.ref t0, .ref w0, .ref r0, .ref m0, .ref k0, .int (bI tt), .int lf])), (t0, .inr (0, [.ref tb, .int (nI (agR tt fw nw ft nt).2.2.2)])), (tb, .inl (cT, 242, .inl (agR tt fw nw ft nt).2.2.1)), (w0, .inr (0, [.ref wb, .int (nI nw)])), (wb, .inl (cV, 242, .inl fw)), (o, .inl (cG, 1, .inr (.inl (wo (agR tt fw nw ft nt).1 G (agR tt fw nw ft nt).2.1.toInt64))))] H := by
        simp only [wo, if_neg hcd]
        exact hP.sub [1, 2, 3, 4, 5, 0] rfl
      have hD9 : va_D A [(x, .inr (4, [.ref t0, .ref w0, .ref r0, .ref m0, .ref k0, .int (bI tt), .int lf])), (t0, .inr (0, [.ref tb, .int (nI (agR tt fw nw ft nt).2.2.2)])), (tb, .inl (cT, 242, .inl (agR tt fw nw ft nt).2.2.1)), (w0, .inr (0, [.ref wb, .int (nI nw)])), (wb, .inl (cV, 242, .inl fw)), (o, .inl (cG, 1, .inr (.inl (wo (agR tt fw nw ft nt).1 G (agR tt fw nw ft nt).2.1.toInt64))))] := by
        simp only [wo, if_neg hcd]
        exact hD.sub [1, 2, 3, 4, 5, 0] (by decide) rfl
      have hv9 : (1 : Int32) = wk 1 (agR tt fw nw ft nt).1 := by
        first | (rw [wk, if_neg hcd, h9]; done) | (rw [wk, if_neg hcd, h9]; rfl)
        try rfl
      exact kc_iret hx hb hr hlocks hv9 hP9 hD9 hS dL_again_13
  · have hP : va_P (dC, dI) kcl [(o, .inl (cG, 1, .inr (.inl G))), (x, .inr (4, [.ref t0, .ref w0, .ref r0, .ref m0, .ref k0, .int (bI tt), .int lf])), (t0, .inr (0, [.ref tb, .int (nI (agR tt fw nw ft nt).2.2.2)])), (tb, .inl (cT, 242, .inl (agR tt fw nw ft nt).2.2.1)), (w0, .inr (0, [.ref wb, .int (nI nw)])), (wb, .inl (cV, 242, .inl fw))] H := hP
    have hD : va_D A [(o, .inl (cG, 1, .inr (.inl G))), (x, .inr (4, [.ref t0, .ref w0, .ref r0, .ref m0, .ref k0, .int (bI tt), .int lf])), (t0, .inr (0, [.ref tb, .int (nI (agR tt fw nw ft nt).2.2.2)])), (tb, .inl (cT, 242, .inl (agR tt fw nw ft nt).2.2.1)), (w0, .inr (0, [.ref wb, .int (nI nw)])), (wb, .inl (cV, 242, .inl fw))] := hD
    refine lv_i2l (v := (agR tt fw nw ft nt).2.1.toInt64) hx hb dL_again_6 rfl ?_
    refine va_last hx hb hK hP hD hS 0 2 rfl rfl (vp_in_nI (n := 0) (by decide) (by decide)) dL_again_7 (fun H locs hP hD hS => ?_)
    have hP : va_P (dC, dI) kcl [(o, .inl (cG, 1, .inr (.inl (vp_updL G 0 (agR tt fw nw ft nt).2.1.toInt64)))), (x, .inr (4, [.ref t0, .ref w0, .ref r0, .ref m0, .ref k0, .int (bI tt), .int lf])), (t0, .inr (0, [.ref tb, .int (nI (agR tt fw nw ft nt).2.2.2)])), (tb, .inl (cT, 242, .inl (agR tt fw nw ft nt).2.2.1)), (w0, .inr (0, [.ref wb, .int (nI nw)])), (wb, .inl (cV, 242, .inl fw))] H := hP
    have hD : va_D A [(o, .inl (cG, 1, .inr (.inl (vp_updL G 0 (agR tt fw nw ft nt).2.1.toInt64)))), (x, .inr (4, [.ref t0, .ref w0, .ref r0, .ref m0, .ref k0, .int (bI tt), .int lf])), (t0, .inr (0, [.ref tb, .int (nI (agR tt fw nw ft nt).2.2.2)])), (tb, .inl (cT, 242, .inl (agR tt fw nw ft nt).2.2.1)), (w0, .inr (0, [.ref wb, .int (nI nw)])), (wb, .inl (cV, 242, .inl fw))] := hD
    refine lv_goto (tgt := 14) hx hb dL_again_8 (by decide) ?_
    refine lv_iconst (v := 0) hx hb dL_again_14 (by decide) ?_
    have hP9 : va_P (dC, dI) kcl [(x, .inr (4, [.ref t0, .ref w0, .ref r0, .ref m0, .ref k0, .int (bI tt), .int lf])), (t0, .inr (0, [.ref tb, .int (nI (agR tt fw nw ft nt).2.2.2)])), (tb, .inl (cT, 242, .inl (agR tt fw nw ft nt).2.2.1)), (w0, .inr (0, [.ref wb, .int (nI nw)])), (wb, .inl (cV, 242, .inl fw)), (o, .inl (cG, 1, .inr (.inl (wo (agR tt fw nw ft nt).1 G (agR tt fw nw ft nt).2.1.toInt64))))] H := by
      simp only [wo, if_pos hcd]
      exact hP.sub [1, 2, 3, 4, 5, 0] rfl
    have hD9 : va_D A [(x, .inr (4, [.ref t0, .ref w0, .ref r0, .ref m0, .ref k0, .int (bI tt), .int lf])), (t0, .inr (0, [.ref tb, .int (nI (agR tt fw nw ft nt).2.2.2)])), (tb, .inl (cT, 242, .inl (agR tt fw nw ft nt).2.2.1)), (w0, .inr (0, [.ref wb, .int (nI nw)])), (wb, .inl (cV, 242, .inl fw)), (o, .inl (cG, 1, .inr (.inl (wo (agR tt fw nw ft nt).1 G (agR tt fw nw ft nt).2.1.toInt64))))] := by
      simp only [wo, if_pos hcd]
      exact hD.sub [1, 2, 3, 4, 5, 0] (by decide) rfl
    have hv9 : (0 : Int32) = wk 1 (agR tt fw nw ft nt).1 := by
      first | (rw [wk, if_pos hcd]; done) | (rw [wk, if_pos hcd]; rfl)
      try rfl
    exact kc_iret hx hb hr hlocks hv9 hP9 hD9 hS dL_again_15
set_option maxHeartbeats 4000000 in
set_option maxRecDepth 100000 in
theorem w_seconds (l : Launch) (hl9 : l.stackTraces = false) (dC : Nat → ClassId) (dI : Nat → Nat → Nat) (st sz : Nat) (x : Nat) (t0 : Nat) (w0 : Nat) (r0 : Nat) (m0 : Nat) (k0 : Nat) (tt : Bool) (lf : Int32) (y : Int32) (mo : Int32) (d : Int32) (hh : Int32) (mi : Int32) (ss : Int32) (hp : Nat) (k : Nat) (o : Nat) (cG : ClassId) (G : Nat → Int64)  : Met l yL_seconds wsL_seconds ({ frames := 7, cells := 1, slots := 6, locals := 110 }) (kn_Pc (dC, dI) kcl st sz [.ref x, .ref o] [(x, .inr (4, [.ref t0, .ref w0, .ref r0, .ref m0, .ref k0, .int (bI tt), .int lf])), (m0, .inr (2, [.int y, .int mo, .int d, .int hh, .int mi, .int ss, .ref hp, .int (nI k)])), (o, .inl (cG, 1, .inr (.inl G)))] [(cG, .long)]) (kc_Qi (dC, dI) kcl (wk 1 (scR tt y mo d hh mi ss).1) [(x, .inr (4, [.ref t0, .ref w0, .ref r0, .ref m0, .ref k0, .int (bI tt), .int lf])), (m0, .inr (2, [.int y, .int mo, .int d, .int hh, .int mi, .int ss, .ref hp, .int (nI k)])), (o, .inl (cG, 1, .inr (.inl (wo (scR tt y mo d hh mi ss).1 G (scR tt y mo d hh mi ss).2))))] (va_A [(x, .inr (4, [.ref t0, .ref w0, .ref r0, .ref m0, .ref k0, .int (bI tt), .int lf])), (m0, .inr (2, [.int y, .int mo, .int d, .int hh, .int mi, .int ss, .ref hp, .int (nI k)])), (o, .inl (cG, 1, .inr (.inl G)))] sz)) 1 6 (va_A [(x, .inr (4, [.ref t0, .ref w0, .ref r0, .ref m0, .ref k0, .int (bI tt), .int lf])), (m0, .inr (2, [.int y, .int mo, .int d, .int hh, .int mi, .int ss, .ref hp, .int (nI k)])), (o, .inl (cG, 1, .inr (.inl G)))] sz) := by
  refine kl_ofH (Qc := fun A => (kc_Qi (dC, dI) kcl (wk 1 (scR tt y mo d hh mi ss).1) [(x, .inr (4, [.ref t0, .ref w0, .ref r0, .ref m0, .ref k0, .int (bI tt), .int lf])), (m0, .inr (2, [.int y, .int mo, .int d, .int hh, .int mi, .int ss, .ref hp, .int (nI k)])), (o, .inl (cG, 1, .inr (.inl (wo (scR tt y mo d hh mi ss).1 G (scR tt y mo d hh mi ss).2))))] A)) (cc := cL_seconds) (maxL := 3) (ret := (some .int)) (by decide) rfl (Nat.le_of_ble_eq_true rfl) ?_
  intro p e s m below meth c A ls Cx hTab hN hA hG hK hP hD hS hl
  obtain ⟨hx, hb, hr, hml, hown, hts, hlocks, hnm⟩ := id Cx
  have hl : lv_has ls 3 [(0, .ref x), (1, .ref o)] := hl
  refine lv_aload_n hx hb dL_seconds_0 rfl (lv_at hl 1 rfl) ?_
  refine lv_iconst (v := 0) hx hb dL_seconds_1 (by decide) ?_
  refine lv_aload_n hx hb dL_seconds_2 rfl (lv_at hl 0 rfl) ?_
  have hPc := hP.sub (ws' := [(x, .inr (4, [.ref t0, .ref w0, .ref r0, .ref m0, .ref k0, .int (bI tt), .int lf])), (m0, .inr (2, [.int y, .int mo, .int d, .int hh, .int mi, .int ss, .ref hp, .int (nI k)]))]) [0, 1] rfl
  have hDc := hD.sub (ws' := [(x, .inr (4, [.ref t0, .ref w0, .ref r0, .ref m0, .ref k0, .int (bI tt), .int lf])), (m0, .inr (2, [.int y, .int mo, .int d, .int hh, .int mi, .int ss, .ref hp, .int (nI k)]))]) [0, 1] (by decide) rfl
  have hKc := hK.sub (tys' := []) [] rfl
  have hFc := va_free (wc := [(x, .inr (4, [.ref t0, .ref w0, .ref r0, .ref m0, .ref k0, .int (bI tt), .int lf])), (m0, .inr (2, [.int y, .int mo, .int d, .int hh, .int mi, .int ss, .ref hp, .int (nI k)]))]) hD hS hA [0, 1] rfl
  refine kx_calll (code := (scR tt y mo d hh mi ss).1) (val := (scR tt y mo d hh mi ss).2) (wr := [(o, .inl (cG, 1, .inr (.inl G)))]) (w1 := [(x, .inr (4, [.ref t0, .ref w0, .ref r0, .ref m0, .ref k0, .int (bI tt), .int lf])), (m0, .inr (2, [.int y, .int mo, .int d, .int hh, .int mi, .int ss, .ref hp, .int (nI k)]))]) (vx_runV (As := []) (rest := [.int 0, .ref o]) ⟨hx, hb, hml, hown, hts⟩ (c_CT_seconds l hl9 dC dI st s.heap.size x t0 w0 r0 m0 k0 tt lf y mo d hh mi ss hp k ) (cwV 0 hts (kwV kwm_319 kwm_320 kwm_321 kwm_14 kwm_322) rfl rfl rfl (by decide +kernel) ⟨Nat.le_of_ble_eq_true rfl, Nat.le_of_ble_eq_true rfl⟩) ⟨kc_blind, va_recv hKc hPc (ci := 4) (q0 := 0) rfl rfl, kc_pre hG hS hFc hKc hPc hDc⟩ rfl rfl hl.1 rfl (lv_room (Nat.le_of_ble_eq_true rfl)) dL_seconds_3 ⟨Nat.le_of_ble_eq_true rfl, Nat.le_of_ble_eq_true rfl⟩) hP hD hS hFc [0, 1] [2] rfl rfl (by decide) (by decide) (fun hcd E ce q9 H locs hE hP hD hS hce hcv hcl => ?_) (fun hcd H locs hP hD hS => ?_)
  · have hP : va_P (dC, dI) kcl [(o, .inl (cG, 1, .inr (.inl G))), (x, .inr (4, [.ref t0, .ref w0, .ref r0, .ref m0, .ref k0, .int (bI tt), .int lf])), (m0, .inr (2, [.int y, .int mo, .int d, .int hh, .int mi, .int ss, .ref hp, .int (nI k)]))] H := hP
    have hD : va_D A [(o, .inl (cG, 1, .inr (.inl G))), (x, .inr (4, [.ref t0, .ref w0, .ref r0, .ref m0, .ref k0, .int (bI tt), .int lf])), (m0, .inr (2, [.int y, .int mo, .int d, .int hh, .int mi, .int ss, .ref hp, .int (nI k)]))] := hD
    rcases scR_cd with h9 | h9
    · exact absurd h9 hcd
    · have hE : E = "java/lang/IllegalStateException" := by rw [hE, h9]; rfl
      subst hE
      refine vx_catch hown [] ⟨0, 7, 10, 13⟩ [] (hTab.trans rfl) (fun z hz => by cases hz) (by decide) (by decide) (hts _ (kcm kwm_323)) (kg_use hG (List.mem_of_getElem? (i := 26) (a := Cond.castable "java/lang/IllegalStateException" "java/lang/IllegalStateException") rfl)) hce hcv hcl ?_
      refine lv_astore_n (lv' := [(2, .ref q9), (0, .ref x), (1, .ref o)]) hx hb dL_seconds_10 rfl hl (by decide) rfl (fun ls hl => ?_)
      refine lv_iconst (v := 1) hx hb dL_seconds_11 (by decide) ?_
      have hP9 : va_P (dC, dI) kcl [(x, .inr (4, [.ref t0, .ref w0, .ref r0, .ref m0, .ref k0, .int (bI tt), .int lf])), (m0, .inr (2, [.int y, .int mo, .int d, .int hh, .int mi, .int ss, .ref hp, .int (nI k)])), (o, .inl (cG, 1, .inr (.inl (wo (scR tt y mo d hh mi ss).1 G (scR tt y mo d hh mi ss).2))))] H := by
        simp only [wo, if_neg hcd]
        exact hP.sub [1, 2, 0] rfl
      have hD9 : va_D A [(x, .inr (4, [.ref t0, .ref w0, .ref r0, .ref m0, .ref k0, .int (bI tt), .int lf])), (m0, .inr (2, [.int y, .int mo, .int d, .int hh, .int mi, .int ss, .ref hp, .int (nI k)])), (o, .inl (cG, 1, .inr (.inl (wo (scR tt y mo d hh mi ss).1 G (scR tt y mo d hh mi ss).2))))] := by
        simp only [wo, if_neg hcd]
        exact hD.sub [1, 2, 0] (by decide) rfl
      have hv9 : (1 : Int32) = wk 1 (scR tt y mo d hh mi ss).1 := by
        first | (rw [wk, if_neg hcd, h9]; done) | (rw [wk, if_neg hcd, h9]; rfl)
        try rfl
      exact kc_iret hx hb hr hlocks hv9 hP9 hD9 hS dL_seconds_12
  · have hP : va_P (dC, dI) kcl [(o, .inl (cG, 1, .inr (.inl G))), (x, .inr (4, [.ref t0, .ref w0, .ref r0, .ref m0, .ref k0, .int (bI tt), .int lf])), (m0, .inr (2, [.int y, .int mo, .int d, .int hh, .int mi, .int ss, .ref hp, .int (nI k)]))] H := hP
    have hD : va_D A [(o, .inl (cG, 1, .inr (.inl G))), (x, .inr (4, [.ref t0, .ref w0, .ref r0, .ref m0, .ref k0, .int (bI tt), .int lf])), (m0, .inr (2, [.int y, .int mo, .int d, .int hh, .int mi, .int ss, .ref hp, .int (nI k)]))] := hD
    refine va_last hx hb hK hP hD hS 0 0 rfl rfl (vp_in_nI (n := 0) (by decide) (by decide)) dL_seconds_6 (fun H locs hP hD hS => ?_)
    have hP : va_P (dC, dI) kcl [(o, .inl (cG, 1, .inr (.inl (vp_updL G 0 (scR tt y mo d hh mi ss).2)))), (x, .inr (4, [.ref t0, .ref w0, .ref r0, .ref m0, .ref k0, .int (bI tt), .int lf])), (m0, .inr (2, [.int y, .int mo, .int d, .int hh, .int mi, .int ss, .ref hp, .int (nI k)]))] H := hP
    have hD : va_D A [(o, .inl (cG, 1, .inr (.inl (vp_updL G 0 (scR tt y mo d hh mi ss).2)))), (x, .inr (4, [.ref t0, .ref w0, .ref r0, .ref m0, .ref k0, .int (bI tt), .int lf])), (m0, .inr (2, [.int y, .int mo, .int d, .int hh, .int mi, .int ss, .ref hp, .int (nI k)]))] := hD
    refine lv_goto (tgt := 13) hx hb dL_seconds_7 (by decide) ?_
    refine lv_iconst (v := 0) hx hb dL_seconds_13 (by decide) ?_
    have hP9 : va_P (dC, dI) kcl [(x, .inr (4, [.ref t0, .ref w0, .ref r0, .ref m0, .ref k0, .int (bI tt), .int lf])), (m0, .inr (2, [.int y, .int mo, .int d, .int hh, .int mi, .int ss, .ref hp, .int (nI k)])), (o, .inl (cG, 1, .inr (.inl (wo (scR tt y mo d hh mi ss).1 G (scR tt y mo d hh mi ss).2))))] H := by
      simp only [wo, if_pos hcd]
      exact hP.sub [1, 2, 0] rfl
    have hD9 : va_D A [(x, .inr (4, [.ref t0, .ref w0, .ref r0, .ref m0, .ref k0, .int (bI tt), .int lf])), (m0, .inr (2, [.int y, .int mo, .int d, .int hh, .int mi, .int ss, .ref hp, .int (nI k)])), (o, .inl (cG, 1, .inr (.inl (wo (scR tt y mo d hh mi ss).1 G (scR tt y mo d hh mi ss).2))))] := by
      simp only [wo, if_pos hcd]
      exact hD.sub [1, 2, 0] (by decide) rfl
    have hv9 : (0 : Int32) = wk 1 (scR tt y mo d hh mi ss).1 := by
      first | (rw [wk, if_pos hcd]; done) | (rw [wk, if_pos hcd]; rfl)
      try rfl
    exact kc_iret hx hb hr hlocks hv9 hP9 hD9 hS dL_seconds_14
