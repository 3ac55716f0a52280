def kg_N : List Cond := [
  .fieldLinkNest RX1 35 "ClockTexts$Moment" "partLength" "I" "ClockTexts",
  .fieldLinkNest RX1 38 "ClockTexts$Moment" "part" "[B" "ClockTexts",
  .fieldLinkNest RX2 51 "ClockTexts" "DAYS_BEFORE_MONTH" "[I" "ClockTexts",
  .methodLinkNest RX2 55 yX4_isLeapYear "ClockTexts",
  .methodLinkNest RX2 47 yX4_daysOfMonth "ClockTexts",
  .fieldLinkNest RX3 30 "ClockTexts$ByteRow" "length" "I" "ClockTexts",
  .fieldLinkNest RX3 43 "ClockTexts$Moment" "year" "I" "ClockTexts",
  .fieldLinkNest RX3 61 "ClockTexts$Moment" "month" "I" "ClockTexts",
  .methodLinkNest RX3 64 yX4_daysOfMonth "ClockTexts",
  .fieldLinkNest RX3 68 "ClockTexts$Moment" "day" "I" "ClockTexts",
  .fieldLinkNest RX3 82 "ClockTexts$Moment" "hour" "I" "ClockTexts",
  .fieldLinkNest RX3 88 "ClockTexts$Moment" "minute" "I" "ClockTexts",
  .fieldLinkNest RX3 91 "ClockTexts$Moment" "second" "I" "ClockTexts",
  .methodLinkNest RX4 21 yX3_init "ClockTexts",
  .fieldLinkNest RX4 48 "ClockTexts$ByteRow" "length" "I" "ClockTexts",
  .fieldLinkNest RX4 149 "ClockTexts$KeptTimes" "wholeSeconds" "[J" "ClockTexts",
  .fieldLinkNest RX4 125 "ClockTexts$KeptTimes" "size" "I" "ClockTexts",
  .fieldLinkNest RX4 143 "ClockTexts$KeptTimes" "inOrder" "[I" "ClockTexts",
  .fieldLinkNest RX4 98 "ClockTexts$Moment" "year" "I" "ClockTexts",
  .fieldLinkNest RX4 101 "ClockTexts$Moment" "month" "I" "ClockTexts",
  .fieldLinkNest RX4 104 "ClockTexts$Moment" "day" "I" "ClockTexts",
  .fieldLinkNest RX4 107 "ClockTexts$Moment" "hour" "I" "ClockTexts",
  .fieldLinkNest RX4 110 "ClockTexts$Moment" "minute" "I" "ClockTexts",
  .fieldLinkNest RX4 113 "ClockTexts$Moment" "second" "I" "ClockTexts",
  .fieldLinkNest RX4 116 "ClockTexts$Moment" "partLength" "I" "ClockTexts",
  .fieldLinkNest RX4 155 "ClockTexts$Moment" "part" "[B" "ClockTexts",
  .castable "java/lang/IllegalStateException" "java/lang/IllegalStateException",
  .castable "java/lang/IllegalArgumentException" "java/lang/IllegalArgumentException",
  .castable "java/lang/IndexOutOfBoundsException" "java/lang/IndexOutOfBoundsException",
  .castable "java/lang/UnsupportedOperationException" "java/lang/UnsupportedOperationException",
  .declares ⟨"java/lang/RuntimeException", "<init>", "(Ljava/lang/String;)V"⟩,
  .declares ⟨"java/lang/Exception", "<init>", "(Ljava/lang/String;)V"⟩,
  .declares ⟨"java/lang/Throwable", "<init>", "(Ljava/lang/String;)V"⟩]
def kg_S : List (String × Nat × String) := [(RX4, 53, "the text would have more than 240 bytes"), (RX4, 64, "of sixteen bytes 0 to 16 can count"), (RX4, 67, "the text has less than sixteen bytes"), (RX4, 82, "no such byte was written"), (RX4, 89, "there is no time"), (RX4, 123, "there is no such unit"), (RX4, 141, "so many times are not kept"), (RX4, 147, "there is no kept time of such a number"), (RX4, 130, "forty times are kept"), (RX4, 75, "the text has a fault"), (RX4, 69, "there is no such kind")]
-- WHAT STAYS OVER THE WHOLE RUN: links of nest mates, casts, statics, texts (kg_N, kg_S are written by program, ahead of this)
def kg_ok : Cond → Bool
  | .fieldLinkNest _ _ _ _ _ _ => true
  | .methodLinkNest _ _ _ _ => true
  | .castable _ _ => true
  | .declares _ => true
  | _ => false
theorem kg_all : ∀ w ∈ kg_N, kg_ok w = true := by decide +kernel
theorem kg_ot {w : Cond} (h : kg_ok w = true) : w.onTables = true := by
  cases w <;> first | rfl | cases h
theorem kg_warm {w : Cond} (h : kg_ok w = true) {s U : State} (hW : s.WarmedH U.vm) (hZ : va_Nw w s) : va_Nw w U := by
  cases w <;> first | exact va_Nw.warmF hW hZ | exact va_Nw.warmM hW hZ | exact va_Nw.warmC hW hZ | exact va_Nw.warmD hW hZ | cases h
def kg (st : Nat) (A : Nat → Prop) (U : State) : Prop := (∀ w ∈ kg_N, va_Nw w U) ∧ va_Z "ClockTexts" "DAYS_BEFORE_MONTH" "[I" (.ref st) A U U.heap ∧ va_T .int st 13 (fun j => .int (dbm j)) A U U.heap ∧
  vx_Zq "java/lang/Throwable" "UNASSIGNED_STACK" "[Ljava/lang/StackTraceElement;" A U U.heap ∧ vx_Zq "java/lang/Throwable" "SUPPRESSED_SENTINEL" "Ljava/util/List;" A U U.heap ∧ ∀ q ∈ kg_S, ∃ sa : Nat, vk_R q.1 q.2.1 q.2.2 sa U
section KG
variable {st : Nat} {A A1 : Nat → Prop} {s U : State} {w : Cond} {H : Heap} {locs : List Loc}
theorem kg_Z (h : kg st A U) : va_Z "ClockTexts" "DAYS_BEFORE_MONTH" "[I" (.ref st) A U U.heap := h.2.1
theorem kg_T (h : kg st A U) : va_T .int st 13 (fun j => .int (dbm j)) A U U.heap := h.2.2.1
theorem kg_U (h : kg st A U) : vx_Zq "java/lang/Throwable" "UNASSIGNED_STACK" "[Ljava/lang/StackTraceElement;" A U U.heap := h.2.2.2.1
theorem kg_V (h : kg st A U) : vx_Zq "java/lang/Throwable" "SUPPRESSED_SENTINEL" "Ljava/util/List;" A U U.heap := h.2.2.2.2.1
theorem kg_str (h : kg st A U) {q : String × Nat × String} (hq : q ∈ kg_S) : ∃ sa : Nat, vk_R q.1 q.2.1 q.2.2 sa U := h.2.2.2.2.2 q hq
theorem kg_nest (h : kg st A U) (hw : w ∈ kg_N) : va_Nw w U := h.1 w hw
theorem kg_use (h : kg st A U) (hw : w ∈ kg_N) {a : Array Value} : w.before a U = true := va_Nw.use (kg_ot (kg_all w hw)) (h.1 w hw)
theorem kg_hat (h : kg st A U) {L : List Cond} {a : Array Value} (h1 : ∀ w ∈ L.filter goodWord, w.before a U = true) (h2 : ∀ w ∈ L.filter (fun w => !goodWord w), w ∈ kg_N) : ∀ w ∈ L, w.before a U = true :=
  vx_hat h1 h2 (fun w hw => kg_use h hw)
theorem kg_calling {g : JFrame} {mk : MethodId} {a : Array Value} (h : kg st A U) : kg st A (U.calling g mk a) :=
  ⟨fun w hw => va_Nw.same (kg_ot (kg_all w hw)) (u := U) rfl (h.1 w hw), va_Z.moved (u := U) (Vm.Alike.refl U.vm) h.2.1, va_T.moved (u := U) (Vm.Alike.refl U.vm) h.2.2.1,
    vx_Zq.moved (u := U) (Vm.Alike.refl U.vm) h.2.2.2.1, vx_Zq.moved (u := U) (Vm.Alike.refl U.vm) h.2.2.2.2.1, fun q hq => by
      obtain ⟨sa, hsa⟩ := h.2.2.2.2.2 q hq
      exact ⟨sa, vk_R.same (u := U) rfl hsa⟩⟩
theorem kg_call (h : kg st A s) (hS : va_S A s.heap H locs) (hA : ∀ q, A1 q → A q) (hU : U.heap = H) (hW : s.WarmedH U.vm) : kg st A1 U := by
  subst hU
  exact ⟨fun w hw => kg_warm (kg_all w hw) hW (h.1 w hw), (va_Z.moved hW.alike (h.2.1.kept hS.2.1)).narrow hA, (va_T.moved hW.alike (h.2.2.1.kept hS.2.1)).narrow hA,
    (vx_Zq.moved hW.alike (h.2.2.2.1.kept hS.2.1)).narrow hA, (vx_Zq.moved hW.alike (h.2.2.2.2.1.kept hS.2.1)).narrow hA, fun q hq => by
      obtain ⟨sa, hsa⟩ := h.2.2.2.2.2 q hq
      exact ⟨sa, vk_R.warm hW hsa⟩⟩
end KG
