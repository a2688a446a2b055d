/-! a text that is a constant: its cell, ahead of all that is new -/
theorem kAny {A : Nat → Prop} {s : State} {H : Heap} {locs : List Loc} {a : Nat} {E : String} (h : va_Any E s s.heap a) (hl : a < s.heap.size) (hA : ¬ A a) (hS : va_S A s.heap H locs) : va_Any E s H a := by
  obtain ⟨c, h1, h2⟩ := h
  exact ⟨c, (hS.2.1 a hl hA).trans h1, h2⟩
def kW (A : Nat → Prop) (U : State) : Prop :=
  (∃ a : Nat, vk_R RX11 9 "router" a U ∧ va_Any "java/lang/String" U U.heap a ∧ a < U.heap.size ∧ ¬ A a) ∧
  (∃ a : Nat, vk_R RX11 11 "link" a U ∧ va_Any "java/lang/String" U U.heap a ∧ a < U.heap.size ∧ ¬ A a) ∧
  (∃ a : Nat, vk_R RX11 13 "to" a U ∧ va_Any "java/lang/String" U U.heap a ∧ a < U.heap.size ∧ ¬ A a) ∧
  (∃ a : Nat, vk_R RX11 15 "loss" a U ∧ va_Any "java/lang/String" U U.heap a ∧ a < U.heap.size ∧ ¬ A a) ∧
  (∃ a : Nat, vk_R RX11 23 "one" a U ∧ va_Any "java/lang/String" U U.heap a ∧ a < U.heap.size ∧ ¬ A a) ∧
  (∃ a : Nat, vk_R RX11 25 "flow" a U ∧ va_Any "java/lang/String" U U.heap a ∧ a < U.heap.size ∧ ¬ A a) ∧
  (∃ a : Nat, vk_R RX11 27 "packet" a U ∧ va_Any "java/lang/String" U U.heap a ∧ a < U.heap.size ∧ ¬ A a) ∧
  (∃ a : Nat, vk_R RX11 29 "goal" a U ∧ va_Any "java/lang/String" U U.heap a ∧ a < U.heap.size ∧ ¬ A a)
/-! THE CLAIM OUT OF ONE WALK OF THE LAW'S BODY. Your part is whole_start (and what it stands on); all else here is the same for every law, but numbers. -/
def R_law : String := "PathProberLaw"
def lw_P (b : Addr) (xs : List Int32) (args : Array Value) (s : State) : Prop := args = #[.ref b] ∧ s.IntsAt b xs ∧ xs.length ≤ 3072 ∧ (Jvm.Cond.and given_1 narrow_1).before args s = true
def lw_Q (_ : Array Value) (s : State) (o : Outcome) (t : State) : Prop := o = .returned (some (.int 1)) ∧ Framed s o t [] 601024 7293034
def lw_Z (below : List Frame) (a : Array Value) (s : State) : State → Prop := fun t => ∃ o, t.status = .running ∧ Ended t below o ∧ lw_Q a s o t
/-- the law's own end, with 1 on the stack, nothing written that was there before, its room as the claim has it -/
theorem lw_ret {p : Program} {l : Launch} {e : Env} {s : State} {m : MethodId} {below : List Frame} {meth : Method} {c : Code} {b : Nat} (hx : p.tables.exec = Jvm.exec) (hb : c.code = code) (hr : meth.sig.returnType = ret) (hlocks : meth.locks = false) {pc : Nat} {H : Heap} {ls : Array Slot} (hdg : decode code pc = .ok (.ireturn, 1)) : W p l e room_1 s m #[Value.ref b] below meth c H [] 601024 7293034 (lw_Z below #[Value.ref b] s) (F0 m pc ls [.int 1]) := by
  intro T hT X
  obtain ⟨fs, hret, hrun, hended, hW, hframe⟩ := X.leave (v := some (.int 1)) (hlocks := hlocks) (fun h => by rw [hr] at h; cases h)
  have hmeth' : T.vm.method? m = some meth := X.method'
  refine ⟨T.setFrames fs, ?_, .returned (some (.int 1)), hrun, hended, rfl, ⟨_, rfl⟩, hW, hframe⟩
  jvm_step X.here [X.here.top, hx, hb, hdg, hmeth', hr, ret, narrow_b1]
  (try refine ⟨rfl, ?_⟩); (try refine ⟨rfl, ?_⟩)
  first | (intro acts; rw [hret _ acts rfl rfl rfl]) | rw [hret _ _ rfl rfl rfl]
  exact Steps.refl _
/-- what holds at the law's entry: the machine, the code, the tables' words (any of lw_tbl by 'hts w (by decide +kernel)'), the script of L ints xs at the cell b, what the Statement gives of the start (any of its parts by flat_of_before) -/
def lw_At (p : Program) (s : State) (m : MethodId) (meth : Method) (c : Code) (b L : Nat) (xs : Nat → Int32) : Prop :=
  p.tables.exec = Jvm.exec ∧ c.code = code ∧ meth.sig.returnType = ret ∧ c.maxLocals = 8 ∧ s.vm.findClass R_law = some m.cls ∧ (∀ w ∈ lw_tbl, w.before #[Value.ref b] s = true) ∧ va_X b L xs s s.heap ∧ b < s.heap.size ∧ meth.locks = false ∧ (Jvm.Cond.and given_1 narrow_1).before #[Value.ref b] s = true
/-! what the start gives: the classes, the arrays' classes, the texts, Throwable's statics -/
theorem kAr {args : Array Value} {s : State} {ty : FieldType} (hp : ∀ C, ty ≠ .object C) (h : (Cond.arrayClass ty).before args s = true) : ∃ c : ClassId, ArrOfT s c ty ∧ va_RA s c ty := by
  obtain ⟨c, k, comp, h1, h2, h3⟩ := Cond.arrayClass_spec (args := args) (first := s) (o := none) (s := s) (idx := []) h
  refine ⟨c, fun n z => ⟨fun k h => (by cases h), k, h2, comp, h3⟩, ?_⟩
  cases ty with
  | object C => exact absurd rfl (hp C)
  | _ => exact h1
theorem kAo {args : Array Value} {s : State} {C : String} (h : (Cond.arrayOver (.object C)).before args s = true) : ∃ c : ClassId, ArrOfT s c (.object C) ∧ va_RA s c (.object C) := by
  obtain ⟨comp, c, k, h1, h2, h3, h4, h5⟩ := Cond.arrayOver_spec (args := args) (first := s) (o := none) (s := s) (idx := []) h
  exact ⟨c, fun n z => ⟨fun k h => (by cases h), k, h3, comp, h4⟩, k, comp, h3, h4, h1, h5⟩
theorem kAnyMoved {E : String} {u U : State} {H : Heap} {a : Nat} (hvm : u.vm.Alike U.vm) (h : va_Any E u H a) : va_Any E U H a := by
  obtain ⟨c, h1, h2, ⟨k, h3⟩, h4⟩ := h
  obtain ⟨k', hk', -⟩ := hvm.2.2 _ _ h3
  refine ⟨c, h1, h2, ⟨k', hk'⟩, fun comp hc => ?_⟩
  rw [hvm.assignable]
  exact h4 comp (by rw [← hvm.findClass]; exact hc)
/-- a text by its place in a class's pool -/
theorem kTx {args : Array Value} {s : State} {own tx : String} {k : Nat} (h1 : (Cond.stringRef own k tx).before args s = true) (h2 : (Cond.exactly (.string own k) "java/lang/String").before args s = true) : ∃ a : Nat, vk_R own k tx a s ∧ va_Any "java/lang/String" s s.heap a ∧ a < s.heap.size := by
  obtain ⟨a, c, cell, kc, q1, q2, q3, q4, q5, q6, -⟩ := Cond.exactly_spec (args := args) (first := s) (o := none) (s := s) (idx := []) h2
  refine ⟨a, vk_R.of h1 q1, ⟨cell, q3, q5, ⟨kc, by rw [q6]; exact q4⟩, fun comp hc => ?_⟩, (Array.getElem?_eq_some_iff.mp q3).1⟩
  rw [q2] at hc
  cases hc
  rw [q6]
  exact va_asg _ _
theorem kW_call {A : Nat → Prop} {U : State} {g : JFrame} {mk : MethodId} {a : Array Value} (h : kW A U) : kW A (U.calling g mk a) := by
  obtain ⟨h0, h1, h2, h3, h4, h5, h6, h7⟩ := h
  exact ⟨h0.elim (fun q hq => ⟨q, vk_R.same (u := U) (U := U.calling g mk a) rfl hq.1, hq.2⟩), h1.elim (fun q hq => ⟨q, vk_R.same (u := U) (U := U.calling g mk a) rfl hq.1, hq.2⟩), h2.elim (fun q hq => ⟨q, vk_R.same (u := U) (U := U.calling g mk a) rfl hq.1, hq.2⟩), h3.elim (fun q hq => ⟨q, vk_R.same (u := U) (U := U.calling g mk a) rfl hq.1, hq.2⟩), h4.elim (fun q hq => ⟨q, vk_R.same (u := U) (U := U.calling g mk a) rfl hq.1, hq.2⟩), h5.elim (fun q hq => ⟨q, vk_R.same (u := U) (U := U.calling g mk a) rfl hq.1, hq.2⟩), h6.elim (fun q hq => ⟨q, vk_R.same (u := U) (U := U.calling g mk a) rfl hq.1, hq.2⟩), h7.elim (fun q hq => ⟨q, vk_R.same (u := U) (U := U.calling g mk a) rfl hq.1, hq.2⟩)⟩
theorem kW_at {A B : Nat → Prop} {s U : State} {H : Heap} {locs : List Loc} (h : kW A s) (hS : va_S A s.heap H locs) (hB : ∀ q, B q → A q) (hW : s.WarmedH U.vm) (hU : U.heap = H) : kW B U := by
  subst hU
  obtain ⟨h0, h1, h2, h3, h4, h5, h6, h7⟩ := h
  exact ⟨h0.elim (fun q hq => ⟨q, vk_R.warm hW hq.1, kAnyMoved hW.alike (kAny hq.2.1 hq.2.2.1 hq.2.2.2 hS), Nat.lt_of_lt_of_le hq.2.2.1 hS.1, fun hb => hq.2.2.2 (hB _ hb)⟩), h1.elim (fun q hq => ⟨q, vk_R.warm hW hq.1, kAnyMoved hW.alike (kAny hq.2.1 hq.2.2.1 hq.2.2.2 hS), Nat.lt_of_lt_of_le hq.2.2.1 hS.1, fun hb => hq.2.2.2 (hB _ hb)⟩), h2.elim (fun q hq => ⟨q, vk_R.warm hW hq.1, kAnyMoved hW.alike (kAny hq.2.1 hq.2.2.1 hq.2.2.2 hS), Nat.lt_of_lt_of_le hq.2.2.1 hS.1, fun hb => hq.2.2.2 (hB _ hb)⟩), h3.elim (fun q hq => ⟨q, vk_R.warm hW hq.1, kAnyMoved hW.alike (kAny hq.2.1 hq.2.2.1 hq.2.2.2 hS), Nat.lt_of_lt_of_le hq.2.2.1 hS.1, fun hb => hq.2.2.2 (hB _ hb)⟩), h4.elim (fun q hq => ⟨q, vk_R.warm hW hq.1, kAnyMoved hW.alike (kAny hq.2.1 hq.2.2.1 hq.2.2.2 hS), Nat.lt_of_lt_of_le hq.2.2.1 hS.1, fun hb => hq.2.2.2 (hB _ hb)⟩), h5.elim (fun q hq => ⟨q, vk_R.warm hW hq.1, kAnyMoved hW.alike (kAny hq.2.1 hq.2.2.1 hq.2.2.2 hS), Nat.lt_of_lt_of_le hq.2.2.1 hS.1, fun hb => hq.2.2.2 (hB _ hb)⟩), h6.elim (fun q hq => ⟨q, vk_R.warm hW hq.1, kAnyMoved hW.alike (kAny hq.2.1 hq.2.2.1 hq.2.2.2 hS), Nat.lt_of_lt_of_le hq.2.2.1 hS.1, fun hb => hq.2.2.2 (hB _ hb)⟩), h7.elim (fun q hq => ⟨q, vk_R.warm hW hq.1, kAnyMoved hW.alike (kAny hq.2.1 hq.2.2.1 hq.2.2.2 hS), Nat.lt_of_lt_of_le hq.2.2.1 hS.1, fun hb => hq.2.2.2 (hB _ hb)⟩)⟩
set_option maxHeartbeats 4000000 in
set_option maxRecDepth 100000 in
theorem law_env {p : Program} {s : State} {m : MethodId} {meth : Method} {c : Code} {b L : Nat} {xs : Nat → Int32} {A : Nat → Prop} (hA2 : ∀ q, A q → s.heap.size ≤ q) (C0 : lw_At p s m meth c b L xs) : ∃ (dC : Nat → ClassId) (dI : Nat → Nat → Nat) (kB kI kJ kZ kC kS : ClassId), kE dC dI kB kI kJ kZ kC kS s ∧ kX s ∧ kT A s ∧ kW A s ∧ va_Nc "java/lang/IllegalArgumentException" "java/util/NoSuchElementException" s := by
  obtain ⟨hx, hb, hr, hml, hown, hts0, hX, hbl, hlocks, hgv⟩ := C0
  have hs := flat_of_before _ hgv
  obtain ⟨c0, iS0, hKn0⟩ := u_known (C := RX0) (T := TX0) (N := 10) (n := 10) hts0 wlx_0 (hts0 (.instantiable RX0 10) (List.mem_of_getElem? (i := 277) rfl))
  obtain ⟨c1, iS1, hKn1⟩ := u_known (C := RX1) (T := TX1) (N := 3) (n := 3) hts0 wlx_1 (hts0 (.instantiable RX1 3) (List.mem_of_getElem? (i := 474) rfl))
  obtain ⟨c2, iS2, hKn2⟩ := u_known (C := RX2) (T := TX2) (N := 15) (n := 15) hts0 wlx_2 (hts0 (.instantiable RX2 15) (List.mem_of_getElem? (i := 156) rfl))
  obtain ⟨c3, iS3, hKn3⟩ := u_known (C := RX3) (T := TX3) (N := 9) (n := 9) hts0 wlx_3 (hts0 (.instantiable RX3 9) (List.mem_of_getElem? (i := 437) rfl))
  obtain ⟨c4, iS4, hKn4⟩ := u_known (C := RX4) (T := TX4) (N := 3) (n := 3) hts0 wlx_4 (hts0 (.instantiable RX4 3) (List.mem_of_getElem? (i := 329) rfl))
  obtain ⟨c5, iS5, hKn5⟩ := u_known (C := RX5) (T := TX5) (N := 9) (n := 9) hts0 wlx_5 (hts0 (.instantiable RX5 9) (List.mem_of_getElem? (i := 242) rfl))
  obtain ⟨c6, iS6, hKn6⟩ := u_known (C := RX6) (T := TX6) (N := 5) (n := 5) hts0 wlx_6 (hts0 (.instantiable RX6 5) (List.mem_of_getElem? (i := 414) rfl))
  obtain ⟨c7, iS7, hKn7⟩ := u_known (C := RX7) (T := TX7) (N := 5) (n := 5) hts0 wlx_7 (hts0 (.instantiable RX7 5) (List.mem_of_getElem? (i := 345) rfl))
  obtain ⟨c8, iS8, hKn8⟩ := u_known (C := RX8) (T := TX8) (N := 2) (n := 2) hts0 wlx_8 (hts0 (.instantiable RX8 2) (List.mem_of_getElem? (i := 140) rfl))
  obtain ⟨c9, iS9, hKn9⟩ := u_known (C := RX9) (T := TX9) (N := 10) (n := 10) hts0 wlx_9 (hts0 (.instantiable RX9 10) (List.mem_of_getElem? (i := 370) rfl))
  obtain ⟨c10, iS10, hKn10⟩ := u_known (C := RX10) (T := TX10) (N := 19) (n := 19) hts0 wlx_10 (hts0 (.instantiable RX10 19) (List.mem_of_getElem? (i := 132) rfl))
  obtain ⟨c11, iS11, hKn11⟩ := u_known (C := RX11) (T := TX11) (N := 61) (n := 61) hts0 wlx_11 (hts0 (.instantiable RX11 61) (List.mem_of_getElem? (i := 1405) rfl))
  obtain ⟨dC, dI, hKc⟩ : ∃ (dC : Nat → ClassId) (dI : Nat → Nat → Nat), ∀ (k : Nat) (q : vw_C), vwCl[k]? = some q → u_Kn s q.1 q.2.1 q.2.2 (dC k) (dI k) := by
    refine ⟨fun k => if k = 0 then c0 else if k = 1 then c1 else if k = 2 then c2 else if k = 3 then c3 else if k = 4 then c4 else if k = 5 then c5 else if k = 6 then c6 else if k = 7 then c7 else if k = 8 then c8 else if k = 9 then c9 else if k = 10 then c10 else c11, fun k => if k = 0 then iS0 else if k = 1 then iS1 else if k = 2 then iS2 else if k = 3 then iS3 else if k = 4 then iS4 else if k = 5 then iS5 else if k = 6 then iS6 else if k = 7 then iS7 else if k = 8 then iS8 else if k = 9 then iS9 else if k = 10 then iS10 else iS11, ?_⟩
    intro k q hq
    match k, hq with
    | 0, hq => cases hq; exact hKn0
    | 1, hq => cases hq; exact hKn1
    | 2, hq => cases hq; exact hKn2
    | 3, hq => cases hq; exact hKn3
    | 4, hq => cases hq; exact hKn4
    | 5, hq => cases hq; exact hKn5
    | 6, hq => cases hq; exact hKn6
    | 7, hq => cases hq; exact hKn7
    | 8, hq => cases hq; exact hKn8
    | 9, hq => cases hq; exact hKn9
    | 10, hq => cases hq; exact hKn10
    | 11, hq => cases hq; exact hKn11
    | k + 12, hq => simp [vwCl] at hq
  obtain ⟨kB, kB1, kB2⟩ := kAr (ty := .byte) (fun C h => by cases h) (hts0 (.arrayClass .byte) (List.mem_of_getElem? (i := 154) rfl))
  obtain ⟨kI, kI1, kI2⟩ := kAr (ty := .int) (fun C h => by cases h) (hts0 (.arrayClass .int) (List.mem_of_getElem? (i := 240) rfl))
  obtain ⟨kJ, kJ1, kJ2⟩ := kAr (ty := .long) (fun C h => by cases h) (hts0 (.arrayClass .long) (List.mem_of_getElem? (i := 327) rfl))
  obtain ⟨kZ, kZ1, kZ2⟩ := kAr (ty := .boolean) (fun C h => by cases h) (hts0 (.arrayClass .boolean) (List.mem_of_getElem? (i := 1605) rfl))
  have aoC : va_AO RX0 s := va_AO.of (hts0 (.arrayOver (.object RX0)) (List.mem_of_getElem? (i := 480) rfl))
  have aoS : va_AO "java/lang/String" s := va_AO.of (hts0 (.arrayOver (.object "java/lang/String")) (List.mem_of_getElem? (i := 1411) rfl))
  obtain ⟨kC, kC1, kC2⟩ := kAo (args := #[]) aoC
  obtain ⟨kS, kS1, kS2⟩ := kAo (args := #[]) aoS
  have hK : va_K (dC, dI) vwCl [(kB, .byte), (kI, .int), (kJ, .long), (kZ, .boolean), (kC, .object RX0), (kS, .object "java/lang/String")] s := by
    refine ⟨hKc, fun k q hq => ?_⟩
    match k, hq with
    | 0, hq => cases hq; exact ⟨kB1, kB2⟩
    | 1, hq => cases hq; exact ⟨kI1, kI2⟩
    | 2, hq => cases hq; exact ⟨kJ1, kJ2⟩
    | 3, hq => cases hq; exact ⟨kZ1, kZ2⟩
    | 4, hq => cases hq; exact ⟨kC1, kC2⟩
    | 5, hq => cases hq; exact ⟨kS1, kS2⟩
    | k + 6, hq => simp at hq
  refine ⟨dC, dI, kB, kI, kJ, kZ, kC, kS, ⟨hK, aoC, aoS, va_Nw.of rfl (hts0 (.methodLinkNest RX10 11 yX8_init RX10) (List.mem_of_getElem? (i := 141) rfl)), va_Nw.of rfl (hts0 (.methodLinkNest RX10 18 yX2_init RX10) (List.mem_of_getElem? (i := 157) rfl)), va_Nw.of rfl (hts0 (.methodLinkNest RX10 37 yX0_init RX10) (List.mem_of_getElem? (i := 278) rfl)), va_Nw.of rfl (hts0 (.methodLinkNest RX10 47 yX4_init RX10) (List.mem_of_getElem? (i := 330) rfl)), va_Nw.of rfl (hts0 (.methodLinkNest RX10 88 yX1_init RX10) (List.mem_of_getElem? (i := 475) rfl)), va_Nw.of rfl (hts0 (.methodLinkNest RX1 35 yX0_init RX10) (List.mem_of_getElem? (i := 589) rfl))⟩, ?_, ?_, ?_, ?_⟩
  · refine ⟨va_Nw.of rfl (hts0 (.castable "java/util/NoSuchElementException" "java/util/NoSuchElementException") (List.mem_of_getElem? (i := 1050) rfl)), va_Nw.of rfl (hts0 (.castable "java/lang/IllegalArgumentException" "java/lang/IllegalArgumentException") (List.mem_of_getElem? (i := 814) rfl)), va_Nw.of rfl (hts0 (.declares ⟨"java/lang/RuntimeException", "<init>", "(Ljava/lang/String;)V"⟩) (List.mem_of_getElem? (i := 816) rfl)), va_Nw.of rfl (hts0 (.declares ⟨"java/lang/Exception", "<init>", "(Ljava/lang/String;)V"⟩) (List.mem_of_getElem? (i := 818) rfl)), va_Nw.of rfl (hts0 (.declares ⟨"java/lang/Throwable", "<init>", "(Ljava/lang/String;)V"⟩) (List.mem_of_getElem? (i := 820) rfl)), ?_, ?_, ?_, ?_, ?_, ?_, ?_, ?_, ?_, ?_, ?_, ?_, ?_, ?_, ?_, ?_⟩
    · obtain ⟨a, h1, -⟩ := kTx (hts0 (.stringRef RX10 130 "the tape has not so many bytes") (List.mem_of_getElem? (i := 852) rfl)) (hs (.exactly (.string RX10 130) "java/lang/String") (by decide +kernel))
      exact ⟨a, h1⟩
    · obtain ⟨a, h1, -⟩ := kTx (hts0 (.stringRef RX10 197 "no such count") (List.mem_of_getElem? (i := 1057) rfl)) (hs (.exactly (.string RX10 197) "java/lang/String") (by decide +kernel))
      exact ⟨a, h1⟩
    · obtain ⟨a, h1, -⟩ := kTx (hts0 (.stringRef RX10 227 "no such thing of a router") (List.mem_of_getElem? (i := 1082) rfl)) (hs (.exactly (.string RX10 227) "java/lang/String") (by decide +kernel))
      exact ⟨a, h1⟩
    · obtain ⟨a, h1, -⟩ := kTx (hts0 (.stringRef RX10 270 "no such thing of a hop") (List.mem_of_getElem? (i := 1164) rfl)) (hs (.exactly (.string RX10 270) "java/lang/String") (by decide +kernel))
      exact ⟨a, h1⟩
    · obtain ⟨a, h1, -⟩ := kTx (hts0 (.stringRef RX10 283 "n is 0 to 60, m is 1 to 5") (List.mem_of_getElem? (i := 1185) rfl)) (hs (.exactly (.string RX10 283) "java/lang/String") (by decide +kernel))
      exact ⟨a, h1⟩
    · obtain ⟨a, h1, -⟩ := kTx (hts0 (.stringRef RX10 288 "no hop lies behind the last") (List.mem_of_getElem? (i := 1198) rfl)) (hs (.exactly (.string RX10 288) "java/lang/String") (by decide +kernel))
      exact ⟨a, h1⟩
    · obtain ⟨a, h1, -⟩ := kTx (hts0 (.stringRef RX10 299 "no such diamond") (List.mem_of_getElem? (i := 1215) rfl)) (hs (.exactly (.string RX10 299) "java/lang/String") (by decide +kernel))
      exact ⟨a, h1⟩
    · obtain ⟨a, h1, -⟩ := kTx (hts0 (.stringRef RX10 334 "no such truth") (List.mem_of_getElem? (i := 1272) rfl)) (hs (.exactly (.string RX10 334) "java/lang/String") (by decide +kernel))
      exact ⟨a, h1⟩
    · obtain ⟨a, h1, -⟩ := kTx (hts0 (.stringRef RX10 416 "n is 0 to 40") (List.mem_of_getElem? (i := 1383) rfl)) (hs (.exactly (.string RX10 416) "java/lang/String") (by decide +kernel))
      exact ⟨a, h1⟩
    · obtain ⟨a, h1, -⟩ := kTx (hts0 (.stringRef RX10 444 "no such port") (List.mem_of_getElem? (i := 1113) rfl)) (hs (.exactly (.string RX10 444) "java/lang/String") (by decide +kernel))
      exact ⟨a, h1⟩
    · obtain ⟨a, h1, -⟩ := kTx (hts0 (.stringRef RX10 446 "no such hops") (List.mem_of_getElem? (i := 1122) rfl)) (hs (.exactly (.string RX10 446) "java/lang/String") (by decide +kernel))
      exact ⟨a, h1⟩
    · obtain ⟨a, h1, -⟩ := kTx (hts0 (.stringRef RX10 448 "no such thing to ask") (List.mem_of_getElem? (i := 1102) rfl)) (hs (.exactly (.string RX10 448) "java/lang/String") (by decide +kernel))
      exact ⟨a, h1⟩
    · obtain ⟨a, h1, -⟩ := kTx (hts0 (.stringRef RX10 453 "no such router") (List.mem_of_getElem? (i := 1079) rfl)) (hs (.exactly (.string RX10 453) "java/lang/String") (by decide +kernel))
      exact ⟨a, h1⟩
    · obtain ⟨a, h1, -⟩ := kTx (hts0 (.stringRef RX10 458 "no such link") (List.mem_of_getElem? (i := 1098) rfl)) (hs (.exactly (.string RX10 458) "java/lang/String") (by decide +kernel))
      exact ⟨a, h1⟩
    · obtain ⟨a, h1, -⟩ := kTx (hts0 (.stringRef RX10 460 "no such goal") (List.mem_of_getElem? (i := 1118) rfl)) (hs (.exactly (.string RX10 460) "java/lang/String") (by decide +kernel))
      exact ⟨a, h1⟩
    · obtain ⟨a, h1, -⟩ := kTx (hts0 (.stringRef RX10 462 "no such address") (List.mem_of_getElem? (i := 1197) rfl)) (hs (.exactly (.string RX10 462) "java/lang/String") (by decide +kernel))
      exact ⟨a, h1⟩
  · exact ⟨vx_Zqof (hts0 (.laysStatic "java/lang/Throwable" "UNASSIGNED_STACK" "[Ljava/lang/StackTraceElement;") (List.mem_of_getElem? (i := 839) rfl)) (hts0 (.initialized "java/lang/Throwable") (List.mem_of_getElem? (i := 117) rfl)) (hs (.isRef (.static "java/lang/Throwable" "UNASSIGNED_STACK" "[Ljava/lang/StackTraceElement;")) (by decide +kernel)) (fun a h q => absurd h (Nat.not_lt.mpr (hA2 a q))), vx_Zqof (hts0 (.laysStatic "java/lang/Throwable" "SUPPRESSED_SENTINEL" "Ljava/util/List;") (List.mem_of_getElem? (i := 841) rfl)) (hts0 (.initialized "java/lang/Throwable") (List.mem_of_getElem? (i := 117) rfl)) (hs (.isRef (.static "java/lang/Throwable" "SUPPRESSED_SENTINEL" "Ljava/util/List;")) (by decide +kernel)) (fun a h q => absurd h (Nat.not_lt.mpr (hA2 a q)))⟩
  · refine ⟨?_, ?_, ?_, ?_, ?_, ?_, ?_, ?_⟩
    · obtain ⟨a, h1, h2, h3⟩ := kTx (hts0 (.stringRef RX11 9 "router") (List.mem_of_getElem? (i := 1412) rfl)) (hs (.exactly (.string RX11 9) "java/lang/String") (by decide +kernel))
      exact ⟨a, h1, h2, h3, fun q => absurd h3 (Nat.not_lt.mpr (hA2 a q))⟩
    · obtain ⟨a, h1, h2, h3⟩ := kTx (hts0 (.stringRef RX11 11 "link") (List.mem_of_getElem? (i := 1413) rfl)) (hs (.exactly (.string RX11 11) "java/lang/String") (by decide +kernel))
      exact ⟨a, h1, h2, h3, fun q => absurd h3 (Nat.not_lt.mpr (hA2 a q))⟩
    · obtain ⟨a, h1, h2, h3⟩ := kTx (hts0 (.stringRef RX11 13 "to") (List.mem_of_getElem? (i := 1414) rfl)) (hs (.exactly (.string RX11 13) "java/lang/String") (by decide +kernel))
      exact ⟨a, h1, h2, h3, fun q => absurd h3 (Nat.not_lt.mpr (hA2 a q))⟩
    · obtain ⟨a, h1, h2, h3⟩ := kTx (hts0 (.stringRef RX11 15 "loss") (List.mem_of_getElem? (i := 1415) rfl)) (hs (.exactly (.string RX11 15) "java/lang/String") (by decide +kernel))
      exact ⟨a, h1, h2, h3, fun q => absurd h3 (Nat.not_lt.mpr (hA2 a q))⟩
    · obtain ⟨a, h1, h2, h3⟩ := kTx (hts0 (.stringRef RX11 23 "one") (List.mem_of_getElem? (i := 1416) rfl)) (hs (.exactly (.string RX11 23) "java/lang/String") (by decide +kernel))
      exact ⟨a, h1, h2, h3, fun q => absurd h3 (Nat.not_lt.mpr (hA2 a q))⟩
    · obtain ⟨a, h1, h2, h3⟩ := kTx (hts0 (.stringRef RX11 25 "flow") (List.mem_of_getElem? (i := 1417) rfl)) (hs (.exactly (.string RX11 25) "java/lang/String") (by decide +kernel))
      exact ⟨a, h1, h2, h3, fun q => absurd h3 (Nat.not_lt.mpr (hA2 a q))⟩
    · obtain ⟨a, h1, h2, h3⟩ := kTx (hts0 (.stringRef RX11 27 "packet") (List.mem_of_getElem? (i := 1418) rfl)) (hs (.exactly (.string RX11 27) "java/lang/String") (by decide +kernel))
      exact ⟨a, h1, h2, h3, fun q => absurd h3 (Nat.not_lt.mpr (hA2 a q))⟩
    · obtain ⟨a, h1, h2, h3⟩ := kTx (hts0 (.stringRef RX11 29 "goal") (List.mem_of_getElem? (i := 1419) rfl)) (hs (.exactly (.string RX11 29) "java/lang/String") (by decide +kernel))
      exact ⟨a, h1, h2, h3, fun q => absurd h3 (Nat.not_lt.mpr (hA2 a q))⟩
  · exact va_Nc.of (hs (.not (.castable "java/lang/IllegalArgumentException" "java/util/NoSuchElementException")) (by decide +kernel))
