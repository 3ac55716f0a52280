-- METHODS THAT RETURN OR THROW: the answer and the exception's number (code) are given outright
def kx_E : Nat → String
  | 1 => "java/lang/IllegalStateException"
  | 2 => "java/lang/IllegalArgumentException"
  | 3 => "java/lang/IndexOutOfBoundsException"
  | _ => "java/lang/UnsupportedOperationException"
section KX
variable {p : Program} {l : Launch} {e : Env} {R : Room} {s : State} {m : MethodId} {args : Array Value} {below : List Frame} {meth : Method} {c : Code} {H : Heap} {locs : List Loc} {cells slots : Nat} {Q : State → Prop}
variable {D : va_G} {cl : List vw_C} {st sz : Nat} {A : Nat → Prop} {ws wc wr w0 w1 : va_W} {tys : List (ClassId × FieldType)} {av : List Value}
def kx_Qi (D : va_G) (cl : List vw_C) (code : Nat) (val : Int32) (w1 : va_W) (A : Nat → Prop) : Array Value → State → Outcome → State → Prop :=
  va_Qi (S := Unit) (fun r _ => r = val ∧ code = 0) (fun _ t => va_P D cl w1 t.heap ∧ va_D A w1) A
def kx_Ql (D : va_G) (cl : List vw_C) (code : Nat) (val : Int64) (w1 : va_W) (A : Nat → Prop) : Array Value → State → Outcome → State → Prop :=
  va_Ql (S := Unit) (fun r _ => r = val ∧ code = 0) (fun _ t => va_P D cl w1 t.heap ∧ va_D A w1) A
def kx_X (D : va_G) (cl : List vw_C) (code : Nat) (w1 : va_W) (A : Nat → Prop) : String → State → State → Prop :=
  vx_X (S := Unit) (fun _ => code ≠ 0) (fun E _ t => E = kx_E code ∧ va_P D cl w1 t.heap ∧ va_D A w1) A
theorem kx_ofW {y : MethodName} {tw tw' : List Cond} {rm : Room} {Qc : (Nat → Prop) → Array Value → State → Outcome → State → Prop} {XC : (Nat → Prop) → String → State → State → Prop} {mc ms : Nat} {cc : ByteArray} {maxL : Nat} {ret : Option FieldType}
    (hy : plainName y.cls = true) (hw : tw = Cond.code y cc maxL ret :: tw') (hlen : (lg_sl av).length ≤ maxL)
    (body : ∀ (p : Program) (e : Env) (s : State) (m : MethodId) (below : List Frame) (meth : Method) (c : Code) (A : Nat → Prop) (ls : Array Slot), kc_Cx y cc ret maxL tw p s m av.toArray meth c → (∀ x ∈ c.exceptionTable.toList, False) → (∀ q, s.heap.size ≤ q → A q) → kg st A s → va_K D cl tys s → va_P D cl w0 s.heap → va_D A w0 → va_S A s.heap s.heap [] → lv_has ls maxL (lv_args 0 av) →
      W p l e rm s m av.toArray below meth c s.heap [] 0 0 (vx_MQ below (Qc A) (XC A) av.toArray s mc ms A) (F0 m 0 ls [])) :
    vx_Met l y tw rm (kc_Pc D cl st sz av w0 tys) (Qc (va_A w0 sz)) (XC (va_A w0 sz)) mc ms (va_A w0 sz) := by
  refine vx_ofW (cc := cc) (maxL := maxL) (ret := ret) hy hw ?_
  intro p e s m args below meth c s₁ B hml hex hv
  obtain ⟨rfl, hsz, hG, hP, hK, hD0⟩ := hv
  subst hsz
  have hts := atoms_spec (ws := tw) B.pre
  have hown : s.vm.findClass y.cls = some m.cls := findClass_of_methodNamed B.named
  have hl := lv_entry av (n := maxL) hlen
  rw [lg_entry_eq]
  exact body p e s m below meth c (va_A w0 s.heap.size) _ ⟨B.exec, B.bytes, B.returns, hml, hown, hts, B.notSynchronized, (name_of_methodNamed B.named B.method).1⟩ hex (fun q h => Or.inr h) hG hK hP hD0.self va_S.rf hl
variable {cc : ByteArray} {pc : Nat} {ls : Array Slot} {rest st0 : List Value} {a : Array Value} {mc ms : Nat} {XC : String → State → State → Prop}
theorem kx_iret {v val : Int32} {code : Nat} (hx : p.tables.exec = Jvm.exec) (hb : c.code = cc) (hr : meth.sig.returnType = some .int) (hlocks : meth.locks = false) (hv : v = val) (hok : code = 0) (hP : va_P D cl w1 H) (hD : va_D A w1) (hS : va_S A s.heap H locs) (h1 : cells ≤ mc) (h2 : slots ≤ ms) (hd : decode cc pc = .ok (.ireturn, 1)) :
    W p l e R s m args below meth c H locs cells slots (vx_MQ below (kx_Qi D cl code val w1 A) XC args s mc ms A) (F0 m pc ls [.int v]) :=
  W.widen h1 h2 (vx_ret (W.iret hx hb hr (fun t ht hW => ⟨⟨v, (), rfl, ⟨hv, hok⟩, by rw [ht]; exact hP, hD⟩, hS.F ht⟩) hS.2.2 hd hlocks))
theorem kx_lret {v val : Int64} {code : Nat} (hx : p.tables.exec = Jvm.exec) (hb : c.code = cc) (hr : meth.sig.returnType = some .long) (hlocks : meth.locks = false) (hv : v = val) (hok : code = 0) (hP : va_P D cl w1 H) (hD : va_D A w1) (hS : va_S A s.heap H locs) (h1 : cells ≤ mc) (h2 : slots ≤ ms) (hd : decode cc pc = .ok (.lreturn, 1)) :
    W p l e R s m args below meth c H locs cells slots (vx_MQ below (kx_Ql D cl code val w1 A) XC args s mc ms A) (F0 m pc ls [.long v]) :=
  W.widen h1 h2 (vx_ret (W.lret hx hb hr (fun t ht hW => ⟨⟨v, (), rfl, ⟨hv, hok⟩, by rw [ht]; exact hP, hD⟩, hS.F ht⟩) hS.2.2 hd hlocks))
theorem kx_made {code : Nat} {cls : String} (hne : code ≠ 0) (hE : cls = kx_E code) (hP : va_P D cl w1 H) (hD : va_D A w1) (hS : va_S A s.heap H locs) :
    ∀ t : State, s.vm.Alike t.vm → H.size ≤ t.heap.size → (∀ q : Nat, q < H.size → t.heap[q]? = H[q]?) → kx_X D cl code w1 A cls s t :=
  fun t _ hsz hk => ⟨(), hne, ⟨hE, hP.kept (fun k q hq => hk q.1 (hP k q hq).lt), hD⟩, Nat.le_trans hS.1 hsz, fun q h1 h2 => (hk q (Nat.lt_of_lt_of_le h1 hS.1)).trans (hS.2.1 q h1 h2)⟩
end KX
