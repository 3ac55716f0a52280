-- THE LAW'S LOOP
theorem law_go {L j : Nat} (hL : L ≤ 2560) (hj : 5 * j ≤ L) (h : ¬ nI L - 5 < nI (5 * j)) : 5 * j + 5 ≤ L := by
  have e : (nI L - 5).toInt = (L : Int) - 5 := pk_sub_toInt (b := 5) (by omega) (by omega)
  have q := Int32.not_lt.mp h
  rw [Int32.le_iff_toInt_le, e, nI_toInt (by omega)] at q
  omega
set_option maxHeartbeats 4000000 in
set_option maxRecDepth 100000 in
theorem law_step {p : Program} {l : Launch} (hl9 : l.stackTraces = false) {e : Env} {s : State} {m : MethodId} {below : List Frame} {meth : Method} {c : Code} {b L : Nat} {xs : Nat → Int32} {dC : Nat → ClassId} {dI : Nat → Nat → Nat} {st : Nat} {x t0 tb w0 wb r0 m0 hp k0 ja jb jc jd q tx pt ot ka kd kp o : Nat} {cT cV cP cW cL cQ cO c1 c2 c3 c4 c5 c6 cG : ClassId} (hL : L ≤ 2560) (Cx : lwCx p s m meth c b L xs dC dI st cT cV cP cW cL cQ cO c1 c2 c3 c4 c5 c6 cG) {j : Nat} (hj : 5 * j ≤ L) (next : 5 * j + 5 ≤ L → lwAt p l e s m below meth c b dC dI x t0 tb w0 wb r0 m0 hp k0 ja jb jc jd q tx pt ot ka kd kp o cT cV cP cW cL cQ cO c1 c2 c3 c4 c5 c6 cG (j + 1) (21 + (j + 1)) (21657 + 6 * (j + 1)) 23) : lwAt p l e s m below meth c b dC dI x t0 tb w0 wb r0 m0 hp k0 ja jb jc jd q tx pt ot ka kd kp o cT cV cP cW cL cQ cO c1 c2 c3 c4 c5 c6 cG j (21 + j) (21657 + 6 * j) 23 := by
  have Cx0 := Cx
  obtain ⟨hx, hb, hr, hml, hown, hts, hX, hbl, hlocks, hG, hN, hK⟩ := Cx0
  have hA : ∀ q : Nat, s.heap.size ≤ q → (fun q : Nat => s.heap.size ≤ q) q := fun _ h => h
  have hbA : ¬ (fun q : Nat => s.heap.size ≤ q) b := Nat.not_le.mpr hbl
  intro tt lf ft nt fw nw ta ah y mo d hh mi ss k g z WS LN PT OD th X mz fl it al PD dg U wr kz KA KD KP ma wg G hI H locs ls hP hD hS hl
  refine lv_iload hx hb dL_law_23 (lv_at hl 4 rfl) ?_
  refine lv_aload_n hx hb dL_law_25 rfl (lv_at hl 0 rfl) ?_
  refine va_slen hx hb hX hbl hbA hS dL_law_26 ?_
  refine lv_iconst (v := 5) hx hb dL_law_27 (by decide) ?_
  refine lv_isub hx hb dL_law_28 ?_
  refine lv_icmp_gt (tgt := 714) hx hb dL_law_29 (by decide) (fun c_29 => ?_) (fun c_29 => ?_)
  · refine lv_iconst (v := 1) hx hb dL_law_714 (by decide) ?_
    refine va_forget (fun q hq => hS.2.2 q hq) ?_
    refine W.widen (k := 1059) (n := 29933) (by omega) (by omega) ?_
    exact lw_ret hx hb hr hlocks dL_law_715
  · have hj5 : 5 * j + 5 ≤ L := law_go hL hj c_29
    have h708 : lwAt p l e s m below meth c b dC dI x t0 tb w0 wb r0 m0 hp k0 ja jb jc jd q tx pt ot ka kd kp o cT cV cP cW cL cQ cO c1 c2 c3 c4 c5 c6 cG j (21 + j + 1) (21657 + 6 * j + 6) 708 := by
      intro tt lf ft nt fw nw ta ah y mo d hh mi ss k g z WS LN PT OD th X mz fl it al PD dg U wr kz KA KD KP ma wg G hI H locs ls hP hD hS hl
      refine lv_iinc (k := 4) (v := nI (5 * (j + 1))) (lv' := [(4, .int (nI (5 * (j + 1)))), (0, .ref b), (1, .ref x), (2, .ref q), (3, .ref o)]) hx hb dL_law_708 hl rfl (nI_add (5 * j) 5) (by decide) rfl (fun ls hl => ?_)
      refine lv_goto (tgt := 23) hx hb dL_law_711 (by decide) ?_
      refine W.widen (k := 21 + (j + 1)) (n := 21657 + 6 * (j + 1)) (by omega) (by omega) ?_
      exact next hj5 _ _ _ _ _ _ _ _ _ _ _ _ _ _ _ _ _ _ _ _ _ _ _ _ _ _ _ _ _ _ _ _ _ _ _ _ _ _ hI H locs ls hP hD hS (lv_sub hl [1, 2, 3, 4, 0] rfl)
    refine lv_aload_n hx hb dL_law_32 rfl (lv_at hl 0 rfl) ?_
    refine lv_iload hx hb dL_law_33 (lv_at hl 4 rfl) ?_
    refine va_sld hx hb hX hbl hbA hS (vp_in_nI (show 5 * j < L by omega) (by omega)) dL_law_35 ?_
    rw [show (nI (5 * j)).toNatClampNeg = 5 * j from nI_clamp (by omega)]
    refine lv_bipush (v := 15) hx hb dL_law_36 (by decide) ?_
    refine lv_iand hx hb dL_law_38 ?_
    obtain ⟨n, hn, en⟩ := pk_andE (xs (5 * j)) (m := 15) 4 (by decide)
    rw [en]
    by_cases hn12 : 12 ≤ n
    · refine lv_tableOut (tgt := 708) hx hb dL_law_39 (Or.inr (by rw [nI_toInt (by omega)]; omega)) (by decide) ?_
      refine W.widen (k := 21 + j + 1) (n := 21657 + 6 * j + 6) (by omega) (by omega) ?_
      exact h708 _ _ _ _ _ _ _ _ _ _ _ _ _ _ _ _ _ _ _ _ _ _ _ _ _ _ _ _ _ _ _ _ _ _ _ _ _ _ hI H locs ls hP hD hS hl
    · have hc : n = 0 ∨ n = 1 ∨ n = 2 ∨ n = 3 ∨ n = 4 ∨ n = 5 ∨ n = 6 ∨ n = 7 ∨ n = 8 ∨ n = 9 ∨ n = 10 ∨ n = 11 := by omega
      rcases hc with rfl | rfl | rfl | rfl | rfl | rfl | rfl | rfl | rfl | rfl | rfl | rfl
      · refine lv_tableIn (off := 61) (tgt := 100) hx hb dL_law_39 (by decide) (by decide) (by decide) (by decide) ?_
        exact lc_feed hl9 hL hj5 Cx h708 _ _ _ _ _ _ _ _ _ _ _ _ _ _ _ _ _ _ _ _ _ _ _ _ _ _ _ _ _ _ _ _ _ _ _ _ _ _ hI H locs ls hP hD hS hl
      · refine lv_tableIn (off := 153) (tgt := 192) hx hb dL_law_39 (by decide) (by decide) (by decide) (by decide) ?_
        exact lc_end hl9 hL hj5 Cx h708 _ _ _ _ _ _ _ _ _ _ _ _ _ _ _ _ _ _ _ _ _ _ _ _ _ _ _ _ _ _ _ _ _ _ _ _ _ _ hI H locs ls hP hD hS hl
      · refine lv_tableIn (off := 209) (tgt := 248) hx hb dL_law_39 (by decide) (by decide) (by decide) (by decide) ?_
        exact lc_read hl9 hL hj5 Cx h708 _ _ _ _ _ _ _ _ _ _ _ _ _ _ _ _ _ _ _ _ _ _ _ _ _ _ _ _ _ _ _ _ _ _ _ _ _ _ hI H locs ls hP hD hS hl
      · refine lv_tableIn (off := 265) (tgt := 304) hx hb dL_law_39 (by decide) (by decide) (by decide) (by decide) ?_
        exact lc_fault hl9 hL hj5 Cx h708 _ _ _ _ _ _ _ _ _ _ _ _ _ _ _ _ _ _ _ _ _ _ _ _ _ _ _ _ _ _ _ _ _ _ _ _ _ _ hI H locs ls hP hD hS hl
      · refine lv_tableIn (off := 278) (tgt := 317) hx hb dL_law_39 (by decide) (by decide) (by decide) (by decide) ?_
        exact lc_out hl9 hL hj5 Cx h708 _ _ _ _ _ _ _ _ _ _ _ _ _ _ _ _ _ _ _ _ _ _ _ _ _ _ _ _ _ _ _ _ _ _ _ _ _ _ hI H locs ls hP hD hS hl
      · refine lv_tableIn (off := 334) (tgt := 373) hx hb dL_law_39 (by decide) (by decide) (by decide) (by decide) ?_
        exact lc_again hl9 hL hj5 Cx h708 _ _ _ _ _ _ _ _ _ _ _ _ _ _ _ _ _ _ _ _ _ _ _ _ _ _ _ _ _ _ _ _ _ _ _ _ _ _ hI H locs ls hP hD hS hl
      · refine lv_tableIn (off := 378) (tgt := 417) hx hb dL_law_39 (by decide) (by decide) (by decide) (by decide) ?_
        exact lc_seconds hl9 hL hj5 Cx h708 _ _ _ _ _ _ _ _ _ _ _ _ _ _ _ _ _ _ _ _ _ _ _ _ _ _ _ _ _ _ _ _ _ _ _ _ _ _ hI H locs ls hP hD hS hl
      · refine lv_tableIn (off := 421) (tgt := 460) hx hb dL_law_39 (by decide) (by decide) (by decide) (by decide) ?_
        exact lc_unit hl9 hL hj5 Cx h708 _ _ _ _ _ _ _ _ _ _ _ _ _ _ _ _ _ _ _ _ _ _ _ _ _ _ _ _ _ _ _ _ _ _ _ _ _ _ hI H locs ls hP hD hS hl
      · refine lv_tableIn (off := 477) (tgt := 516) hx hb dL_law_39 (by decide) (by decide) (by decide) (by decide) ?_
        exact lc_keep hl9 hL hj5 Cx h708 _ _ _ _ _ _ _ _ _ _ _ _ _ _ _ _ _ _ _ _ _ _ _ _ _ _ _ _ _ _ _ _ _ _ _ _ _ _ hI H locs ls hP hD hS hl
      · refine lv_tableIn (off := 521) (tgt := 560) hx hb dL_law_39 (by decide) (by decide) (by decide) (by decide) ?_
        exact lc_order hl9 hL hj5 Cx h708 _ _ _ _ _ _ _ _ _ _ _ _ _ _ _ _ _ _ _ _ _ _ _ _ _ _ _ _ _ _ _ _ _ _ _ _ _ _ hI H locs ls hP hD hS hl
      · refine lv_tableIn (off := 577) (tgt := 616) hx hb dL_law_39 (by decide) (by decide) (by decide) (by decide) ?_
        exact lc_between hl9 hL hj5 Cx h708 _ _ _ _ _ _ _ _ _ _ _ _ _ _ _ _ _ _ _ _ _ _ _ _ _ _ _ _ _ _ _ _ _ _ _ _ _ _ hI H locs ls hP hD hS hl
      · refine lv_tableIn (off := 644) (tgt := 683) hx hb dL_law_39 (by decide) (by decide) (by decide) (by decide) ?_
        exact lc_count hl9 hL hj5 Cx h708 _ _ _ _ _ _ _ _ _ _ _ _ _ _ _ _ _ _ _ _ _ _ _ _ _ _ _ _ _ _ _ _ _ _ _ _ _ _ hI H locs ls hP hD hS hl
theorem law_loop {p : Program} {l : Launch} (hl9 : l.stackTraces = false) {e : Env} {s : State} {m : MethodId} {below : List Frame} {meth : Method} {c : Code} {b L : Nat} {xs : Nat → Int32} {dC : Nat → ClassId} {dI : Nat → Nat → Nat} {st : Nat} {x t0 tb w0 wb r0 m0 hp k0 ja jb jc jd q tx pt ot ka kd kp o : Nat} {cT cV cP cW cL cQ cO c1 c2 c3 c4 c5 c6 cG : ClassId} (hL : L ≤ 2560) (Cx : lwCx p s m meth c b L xs dC dI st cT cV cP cW cL cQ cO c1 c2 c3 c4 c5 c6 cG) : ∀ (N j : Nat), L ≤ 5 * j + N → 5 * j ≤ L → lwAt p l e s m below meth c b dC dI x t0 tb w0 wb r0 m0 hp k0 ja jb jc jd q tx pt ot ka kd kp o cT cV cP cW cL cQ cO c1 c2 c3 c4 c5 c6 cG j (21 + j) (21657 + 6 * j) 23 := by
  intro N
  induction N with
  | zero => intro j h1 h2; exact law_step hl9 hL Cx h2 (fun h => absurd h (by omega))
  | succ N ih => intro j h1 h2; exact law_step hl9 hL Cx h2 (fun h => ih (j + 1) (by omega) (by omega))
