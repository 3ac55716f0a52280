-- THE LAW'S LITTLE METHODS: they call what may throw, and catch it
def kn (U : State) : Prop := va_Nc "java/lang/IllegalStateException" "java/lang/IllegalArgumentException" U ∧ va_Nc "java/lang/IndexOutOfBoundsException" "java/lang/IllegalStateException" U ∧ va_Nc "java/lang/UnsupportedOperationException" "java/lang/IllegalStateException" U
theorem kn_moved {u U : State} (h : u.vm.Alike U.vm) (k : kn u) : kn U := ⟨va_Nc.moved h k.1, va_Nc.moved h k.2.1, va_Nc.moved h k.2.2⟩
def wo (code : Nat) (G : Nat → Int64) (v : Int64) : Nat → Int64 := if code = 0 then vp_updL G 0 v else G
/-- the law's number of a throw: 'one' is thrown first, any other second -/
def wk (one code : Nat) : Int32 := if code = 0 then 0 else if code = one then 1 else 2
section KL
variable {p : Program} {l : Launch} {e : Env} {R : Room} {s : State} {m : MethodId} {args : Array Value} {below : List Frame} {meth : Method} {c : Code} {H : Heap} {locs : List Loc} {cells slots : Nat} {Q : State → Prop}
variable {D : va_G} {cl : List vw_C} {st sz : Nat} {A : Nat → Prop} {ws wc wr w0 w1 : va_W} {tys : List (ClassId × FieldType)} {av : List Value}
def kn_Pc (D : va_G) (cl : List vw_C) (st sz : Nat) (av : List Value) (w0 : va_W) (tys : List (ClassId × FieldType)) : Array Value → State → Prop := fun a U => kc_Pc D cl st sz av w0 tys a U ∧ kn U
theorem kn_blind : FrameBlind (kn_Pc D cl st sz av w0 tys) := fun a U g mk q => ⟨kc_blind a U g mk q.1, kn_moved (u := U) (U := U.calling g mk a) (Vm.Alike.refl U.vm) q.2⟩
theorem kn_pre (hN : kn s) (hG : kg st A s) (hS : va_S A s.heap H locs) (hF : ∀ q, va_A wc H.size q → A q) (hK : va_K D cl tys s) (hP : va_P D cl wc H) (hD : va_D A wc) :
    ∀ U : State, U.heap = H → s.WarmedH U.vm → kn_Pc D cl st H.size av wc tys av.toArray U :=
  fun U hU hW => ⟨kc_pre hG hS hF hK hP hD U hU hW, kn_moved hW.alike hN⟩
theorem kl_ofH {y : MethodName} {tw tw' : List Cond} {rm : Room} {Qc : (Nat → Prop) → Array Value → State → Outcome → State → Prop} {mc ms : Nat} {cc : ByteArray} {maxL : Nat} {ret : Option FieldType} {hh : List (Nat × Nat × Nat × Nat)}
    (hy : plainName y.cls = true) (hw : tw = Cond.codeWith y cc maxL ret hh :: tw') (hlen : (lg_sl av).length ≤ maxL)
    (body : ∀ (p : Program) (e : Env) (s : State) (m : MethodId) (below : List Frame) (meth : Method) (c : Code) (A : Nat → Prop) (ls : Array Slot), kc_Cx y cc ret maxL tw p s m av.toArray meth c → c.exceptionTable.toList = tableOf hh → kn s → (∀ q, s.heap.size ≤ q → A q) → kg st A s → va_K D cl tys s → va_P D cl w0 s.heap → va_D A w0 → va_S A s.heap s.heap [] → lv_has ls maxL (lv_args 0 av) →
      W p l e rm s m av.toArray below meth c s.heap [] 0 0 (MQ below (Qc A) av.toArray s mc ms A) (F0 m 0 ls [])) :
    Met l y tw rm (kn_Pc D cl st sz av w0 tys) (Qc (va_A w0 sz)) mc ms (va_A w0 sz) := by
  refine MetFree.of_bodyS (code := cc) (maxLocals := maxL) (ret := ret) hy ?_ ?_
  · intro args s m h hn
    obtain ⟨m9, meth, c, hn9, h1, h2, h3, h4, -, h5, h6, -⟩ := Cond.codeWith_spec (atoms_spec (ws := tw) h _ (by rw [hw]; exact List.mem_cons_self))
    cases hn.symm.trans hn9
    exact ⟨meth, c, h1, h2, h3, h4, h5, h6⟩
  · intro p e s m args below meth c s₁ B hml hv _
    have hh0 : s₁.heap = s.heap := by rw [B.state]; rfl
    obtain ⟨⟨rfl, hsz, hG, hP, hK, hD0⟩, hN⟩ := hv
    subst hsz
    have hts := atoms_spec (ws := tw) B.pre
    have hown : s.vm.findClass y.cls = some m.cls := findClass_of_methodNamed B.named
    have hTab := vx_table (x := y) B (hts _ (by rw [hw]; exact List.mem_cons_self))
    have hl := lv_entry av (n := maxL) hlen
    have K := body p e s m below meth c (va_A w0 s.heap.size) _ ⟨B.exec, B.bytes, B.returns, hml, hown, hts, B.notSynchronized, (name_of_methodNamed B.named B.method).1⟩ hTab hN (fun q h => Or.inr h) hG hK hP hD0.self va_S.rf hl
    rw [← lg_entry_eq] at K
    obtain ⟨t, a1, o, b1, b2, b3⟩ := K s₁ hh0 (Stand.of_body B)
    exact ⟨t, o, a1, b1, b2, ⟨b3.1, b3.2⟩⟩
variable {cc : ByteArray} {pc : Nat} {ls : Array Slot} {rest st0 : List Value} {a : Array Value} {mc ms : Nat}
theorem kx_calli {code : Nat} {val : Int32} (hr : vx_Run p l e R s m args below meth c H locs cells slots mc ms (F0 m pc ls st0) rest (kx_Qi D cl code val w1 (va_A wc H.size) a) (kx_X D cl code w1 (va_A wc H.size)) (va_A wc H.size))
    (hP : va_P D cl ws H) (hD : va_D A ws) (hS : va_S A s.heap H locs) (hF : ∀ q, va_A wc H.size q → A q) (isC isR : List Nat) (hC : isC.map (fun i => ws[i]?) = wc.map some) (hR : isR.map (fun i => ws[i]?) = wr.map some) (hn : va_nd isR = true) (hdis : ∀ i ∈ isR, i ∉ isC)
    (kx : code ≠ 0 → ∀ (E : String) (ce : Cell) (q9 : Addr) (H1 : Heap) (locs1 : List Loc), E = kx_E code → va_P D cl (wr ++ w1) H1 → va_D A (wr ++ w1) → va_S A s.heap H1 locs1 → H1[q9]? = some ce → ce.vm = .none → s.vm.findClass E = some ce.cls → vx_W p l e R s m args below meth c H1 locs1 (cells + mc) (slots + ms) Q (F0 m pc ls rest) q9)
    (kk : code = 0 → ∀ (H1 : Heap) (locs1 : List Loc), va_P D cl (wr ++ w1) H1 → va_D A (wr ++ w1) → va_S A s.heap H1 locs1 → W p l e R s m args below meth c H1 locs1 (cells + mc) (slots + ms) Q (F0 m (pc + 3) ls (.int val :: rest))) : W p l e R s m args below meth c H locs cells slots Q (F0 m pc ls st0) := by
  refine vx_calli hr hS (fun q _ h => hF q h) hF (fun q _ h => hF q h) (fun E ce q9 u t H1 locs1 ht hvm hw hB hz1 hk1 hS1 h1 h2 h3 => ?_) (fun r u t H1 locs1 ht hvm hw hB hz1 hk1 hS1 => ?_)
  · obtain ⟨hE, hP1, hD1⟩ := hB
    rw [ht] at hP1
    obtain ⟨hP2, hD2⟩ := va_join hP hD isC isR hC hR hn hdis hk1 hF hP1 hD1
    exact kx hw E ce q9 H1 locs1 hE hP2 hD2 hS1 h1 h2 h3
  · obtain ⟨hP1, hD1⟩ := hB
    rw [ht] at hP1
    obtain ⟨hP2, hD2⟩ := va_join hP hD isC isR hC hR hn hdis hk1 hF hP1 hD1
    obtain ⟨hw, hc⟩ := hw
    have hw : r = val := hw
    subst hw
    exact kk hc H1 locs1 hP2 hD2 hS1
theorem kx_calll {code : Nat} {val : Int64} (hr : vx_Run p l e R s m args below meth c H locs cells slots mc ms (F0 m pc ls st0) rest (kx_Ql D cl code val w1 (va_A wc H.size) a) (kx_X D cl code w1 (va_A wc H.size)) (va_A wc H.size))
    (hP : va_P D cl ws H) (hD : va_D A ws) (hS : va_S A s.heap H locs) (hF : ∀ q, va_A wc H.size q → A q) (isC isR : List Nat) (hC : isC.map (fun i => ws[i]?) = wc.map some) (hR : isR.map (fun i => ws[i]?) = wr.map some) (hn : va_nd isR = true) (hdis : ∀ i ∈ isR, i ∉ isC)
    (kx : code ≠ 0 → ∀ (E : String) (ce : Cell) (q9 : Addr) (H1 : Heap) (locs1 : List Loc), E = kx_E code → va_P D cl (wr ++ w1) H1 → va_D A (wr ++ w1) → va_S A s.heap H1 locs1 → H1[q9]? = some ce → ce.vm = .none → s.vm.findClass E = some ce.cls → vx_W p l e R s m args below meth c H1 locs1 (cells + mc) (slots + ms) Q (F0 m pc ls rest) q9)
    (kk : code = 0 → ∀ (H1 : Heap) (locs1 : List Loc), va_P D cl (wr ++ w1) H1 → va_D A (wr ++ w1) → va_S A s.heap H1 locs1 → W p l e R s m args below meth c H1 locs1 (cells + mc) (slots + ms) Q (F0 m (pc + 3) ls (.long val :: rest))) : W p l e R s m args below meth c H locs cells slots Q (F0 m pc ls st0) := by
  refine vx_calll hr hS (fun q _ h => hF q h) hF (fun q _ h => hF q h) (fun E ce q9 u t H1 locs1 ht hvm hw hB hz1 hk1 hS1 h1 h2 h3 => ?_) (fun r u t H1 locs1 ht hvm hw hB hz1 hk1 hS1 => ?_)
  · obtain ⟨hE, hP1, hD1⟩ := hB
    rw [ht] at hP1
    obtain ⟨hP2, hD2⟩ := va_join hP hD isC isR hC hR hn hdis hk1 hF hP1 hD1
    exact kx hw E ce q9 H1 locs1 hE hP2 hD2 hS1 h1 h2 h3
  · obtain ⟨hP1, hD1⟩ := hB
    rw [ht] at hP1
    obtain ⟨hP2, hD2⟩ := va_join hP hD isC isR hC hR hn hdis hk1 hF hP1 hD1
    obtain ⟨hw, hc⟩ := hw
    have hw : r = val := hw
    subst hw
    exact kk hc H1 locs1 hP2 hD2 hS1
end KL
-- which exceptions a method throws
theorem fdR_cd {ft : Nat → Int32} {nt : Nat} {p1 p2 p3 p4 : Int32} : (fdR ft nt p1 p2 p3 p4).1 = 0 ∨ (fdR ft nt p1 p2 p3 p4).1 = 1 := by
  unfold fdR; dsimp only; split <;> first | exact Or.inl rfl | exact Or.inr rfl
theorem enR_cd {nt : Nat} {p1 : Int32} : (enR nt p1).1 = 0 ∨ (enR nt p1).1 = 2 ∨ (enR nt p1).1 = 1 := by
  unfold enR; repeat' split
  all_goals first | exact Or.inl rfl | exact Or.inr (Or.inl rfl) | exact Or.inr (Or.inr rfl)
theorem otR_cd {fw : Nat → Int32} {nw : Nat} {p1 : Int32} : (otR fw nw p1).1 = 0 ∨ (otR fw nw p1).1 = 3 := by
  unfold otR; repeat' split
  all_goals first | exact Or.inl rfl | exact Or.inr rfl
theorem scR_cd {tt : Bool} {y mo d hh mi ss : Int32} : (scR tt y mo d hh mi ss).1 = 0 ∨ (scR tt y mo d hh mi ss).1 = 1 := by
  unfold scR; repeat' split
  all_goals first | exact Or.inl rfl | exact Or.inr rfl
theorem unR_cd {tt : Bool} {y mo d hh mi ss : Int32} {k : Nat} {p1 : Int32} : (unR tt y mo d hh mi ss k p1).1 = 0 ∨ (unR tt y mo d hh mi ss k p1).1 = 1 ∨ (unR tt y mo d hh mi ss k p1).1 = 3 := by
  unfold unR; repeat' split
  all_goals first | exact Or.inl rfl | exact Or.inr (Or.inl rfl) | exact Or.inr (Or.inr rfl)
theorem kpR_cd {tt : Bool} {z : Nat} {y mo d hh mi ss : Int32} {g : Nat → Int32} {k : Nat} {WS : Nat → Int64} {LN PT OD : Nat → Int32} : (kpR tt z y mo d hh mi ss g k WS LN PT OD).1 = 0 ∨ (kpR tt z y mo d hh mi ss g k WS LN PT OD).1 = 1 ∨ (kpR tt z y mo d hh mi ss g k WS LN PT OD).1 = 4 := by
  unfold kpR; repeat' split
  all_goals first | exact Or.inl rfl | exact Or.inr (Or.inl rfl) | exact Or.inr (Or.inr rfl)
theorem odR_cd {z : Nat} {OD : Nat → Int32} {p1 : Int32} : (odR z OD p1).1 = 0 ∨ (odR z OD p1).1 = 3 := by
  unfold odR; repeat' split
  all_goals first | exact Or.inl rfl | exact Or.inr rfl
theorem btR_cd {z : Nat} {WS : Nat → Int64} {p1 p2 : Int32} : (btR z WS p1 p2).1 = 0 ∨ (btR z WS p1 p2).1 = 3 := by
  unfold btR; repeat' split
  all_goals first | exact Or.inl rfl | exact Or.inr rfl
theorem agR_cd {tt : Bool} {fw : Nat → Int32} {nw : Nat} {ft : Nat → Int32} {nt : Nat} : (agR tt fw nw ft nt).1 = 0 ∨ (agR tt fw nw ft nt).1 = 1 := by
  unfold agR; repeat' split
  all_goals first | exact Or.inl rfl | exact Or.inr rfl
theorem reR_cd {tt : Bool} {lf kind : Int32} {ft : Nat → Int32} {nt : Nat} {fw : Nat → Int32} {nw : Nat} {ta ah y mo d hh mi ss : Int32} {g : Nat → Int32} {k : Nat} : (reR tt lf kind ft nt fw nw ta ah y mo d hh mi ss g k).1 = 0 ∨ (reR tt lf kind ft nt fw nw ta ah y mo d hh mi ss g k).1 = 2 := by
  unfold reR; dsimp only; repeat' split
  all_goals first | exact Or.inl rfl | exact Or.inr rfl
