def rm_s10_mustBeWhat_whi : Room := { frames := 6, cells := 1, slots := 6, locals := 82 }
set_option maxHeartbeats 4000000 in
set_option maxRecDepth 100000 in
theorem s10_mustBeWhat_whi (l : Launch) (hst : l.stackTraces = false) (dC : Nat → ClassId) (dI : Nat → Nat → Nat) (kB kI kJ kZ kC kS : ClassId) (sz : Nat) (p0 : Int32) (hp0 : iv 2 2147483647 p0) : vx_Met l yX10_mustBeWhat wsX10_mustBeWhat rm_s10_mustBeWhat_whi (va_Pc [.int p0, .int 1] (fun U => U.heap.size = sz ∧ va_P (dC, dI) vwCl [] U.heap ∧ kE dC dI kB kI kJ kZ kC kS U ∧ va_D (fun _ => True) [] ∧ kX U ∧ kT (va_A [] sz) U)) (va_Qv (fun (_ : Unit) => False) (fun _ t => va_P (dC, dI) vwCl [] t.heap ∧ va_D (va_A [] sz) []) (va_A [] sz)) (vx_X (fun (_ : Unit) => True) (fun (E : String) (_ : Unit) (t : State) => (E = "java/util/NoSuchElementException") ∧ va_P (dC, dI) vwCl [] t.heap ∧ va_D (va_A [] sz) []) (va_A [] sz)) 1 6 (va_A [] sz) := by
  refine vx_ofW (cc := cX10_mustBeWhat) (maxL := 2) (ret := none) (by decide) rfl ?_
  intro p e s m args0 below meth c s₁ B hml hexT hv
  obtain ⟨hargs, hsz, hP, hE, hD0, hXs, hT⟩ := hv
  have hx := B.exec
  have hb := B.bytes
  have hr := B.returns
  have hts := atoms_spec (ws := wsX10_mustBeWhat) B.pre
  have hown : s.vm.findClass RX10 = some m.cls := findClass_of_methodNamed B.named
  have hlocks := B.notSynchronized
  have hK := hE.1
  have hw_0 := hts (.classLink RX10 195 "java/util/NoSuchElementException") (List.mem_of_getElem? (i := 1) rfl)
  have hw_1 := hts (.initialized "java/util/NoSuchElementException") (List.mem_of_getElem? (i := 2) rfl)
  subst hsz
  have hD := hD0.self (sz := s.heap.size)
  generalize hAe : va_A [] s.heap.size = A at hD hT ⊢
  have hA : ∀ q : Nat, s.heap.size ≤ q → A q := fun q h => by rw [← hAe]; exact Or.inr h
  have hS : va_S A s.heap s.heap [] := va_S.rf
  have hP : va_P (dC, dI) vwCl [] s.heap := hP
  have hl := lv_entry ([.int p0, .int 1]) (n := 2) (Nat.le_of_ble_eq_true rfl)
  have hla : entryFrame m args0 2 = entryFrame m ([.int p0, .int 1] : List Value).toArray 2 := by rw [hargs]
  rw [hla, lg_entry_eq]
  generalize (lg_sl ([.int p0, .int 1]) ++ List.replicate (2 - (lg_sl ([.int p0, .int 1])).length) Slot.unset).toArray = ls at hl ⊢
  have hl : lv_has ls 2 [(0, .int p0), (1, .int 1)] := hl
  refine lv_iload_n hx hb dX10_mustBeWhat_0 rfl (lv_at hl 0 rfl) ?_
  refine lv_if_lt (tgt := 9) hx hb dX10_mustBeWhat_1 rfl (fun c9 => absurd c9 (iv_nlt hp0 ivk_0 (by decide))) (fun _ => ?_)
  refine lv_iload_n hx hb dX10_mustBeWhat_4 rfl (lv_at hl 0 rfl) ?_
  refine lv_iload_n hx hb dX10_mustBeWhat_5 rfl (lv_at hl 1 rfl) ?_
  refine lv_icmp_le (tgt := 20) hx hb dX10_mustBeWhat_6 rfl (fun c9 => absurd c9 (iv_nle hp0 ivk_1 (by decide))) (fun _ => ?_)
  have hP9 := hP
  have hD9 := hD
  obtain ⟨sa1, hstr⟩ := hXs.2.2.2.2.2.2.2.2.2.2.2.2.2.2.2.2.1
  exact vx_throwSXW (names := ["java/lang/RuntimeException", "java/lang/Exception"]) hx hb hst (ix := 13) (rx := kNse) (by decide +kernel) (by decide +kernel) (by decide +kernel) (by decide +kernel) hown (by decide +kernel) (by decide +kernel) hw_0 hw_1 hstr (vx_hat (L := vx_atSX RX10 199 "java/util/NoSuchElementException" 13 kNse ["java/lang/RuntimeException", "java/lang/Exception"]) (B := [.castable "java/util/NoSuchElementException" "java/util/NoSuchElementException", .declares ⟨"java/lang/RuntimeException", "<init>", "(Ljava/lang/String;)V"⟩, .declares ⟨"java/lang/Exception", "<init>", "(Ljava/lang/String;)V"⟩, .declares ⟨"java/lang/Throwable", "<init>", "(Ljava/lang/String;)V"⟩]) (fun w hw => hts w ((by decide +kernel : ∀ w ∈ (vx_atSX RX10 199 "java/util/NoSuchElementException" 13 kNse ["java/lang/RuntimeException", "java/lang/Exception"]).filter goodWord, w ∈ wsX10_mustBeWhat) w hw)) (by decide +kernel) (vx_c (va_Nw.use rfl hXs.1) (vx_c (va_Nw.use rfl hXs.2.2.1) (vx_c (va_Nw.use rfl hXs.2.2.2.1) (vx_c (va_Nw.use rfl hXs.2.2.2.2.1) (vx_n)))))) (by decide +kernel) hT.1 hT.2 hS (by rw [hml]; exact hl.1) dX10_mustBeWhat_9 dX10_mustBeWhat_12 dX10_mustBeWhat_13 dX10_mustBeWhat_16 dX10_mustBeWhat_19 (fun x h9 => (hexT x h9).elim) (Nat.le_of_ble_eq_true rfl) (Nat.le_of_ble_eq_true rfl) (Nat.le_of_ble_eq_true rfl) (Nat.le_of_ble_eq_true rfl) hlocks (fun t9 _ h8 h9 => ⟨(), trivial, ⟨rfl, hP9.kept (fun k q hk => h9 q.1 (hP9 k q hk).lt), hD9⟩, Nat.le_trans hS.1 h8, fun q h1 h2 => (h9 q (Nat.lt_of_lt_of_le h1 hS.1)).trans (hS.2.1 q h1 h2)⟩) hS.2.2 (Nat.le_of_ble_eq_true rfl) (Nat.le_of_ble_eq_true rfl)
def rm_s10_mustBeWhat_w0 : Room := { frames := 0, cells := 0, slots := 0, locals := 0 }
set_option maxHeartbeats 4000000 in
set_option maxRecDepth 100000 in
theorem s10_mustBeWhat_w0 (l : Launch) (dC : Nat → ClassId) (dI : Nat → Nat → Nat) (kB kI kJ kZ kC kS : ClassId) (sz : Nat)  : Met l yX10_mustBeWhat wsX10_mustBeWhat rm_s10_mustBeWhat_w0 (va_Pc [.int 0, .int 1] (fun U => U.heap.size = sz ∧ va_P (dC, dI) vwCl [] U.heap ∧ kE dC dI kB kI kJ kZ kC kS U ∧ va_D (fun _ => True) [])) (va_Qv (fun (_ : Unit) => True) (fun _ t => va_P (dC, dI) vwCl [] t.heap ∧ va_D (va_A [] sz) []) (va_A [] sz)) 0 0 (va_A [] sz) := by
  refine Met.ofW (cc := cX10_mustBeWhat) (maxL := 2) (ret := none) (by decide) rfl ?_
  intro p e s m args0 below meth c s₁ B hml hv
  obtain ⟨hargs, hsz, hP, hE, hD0⟩ := hv
  have hx := B.exec
  have hb := B.bytes
  have hr := B.returns
  have hts := atoms_spec (ws := wsX10_mustBeWhat) B.pre
  have hown : s.vm.findClass RX10 = some m.cls := findClass_of_methodNamed B.named
  have hlocks := B.notSynchronized
  have hK := hE.1
  subst hsz
  have hD := hD0.self (sz := s.heap.size)
  generalize hAe : va_A [] s.heap.size = A at hD ⊢
  have hA : ∀ q : Nat, s.heap.size ≤ q → A q := fun q h => by rw [← hAe]; exact Or.inr h
  have hS : va_S A s.heap s.heap [] := va_S.rf
  have hP : va_P (dC, dI) vwCl [] s.heap := hP
  have hl := lv_entry ([.int 0, .int 1]) (n := 2) (Nat.le_of_ble_eq_true rfl)
  have hla : entryFrame m args0 2 = entryFrame m ([.int 0, .int 1] : List Value).toArray 2 := by rw [hargs]
  rw [hla, lg_entry_eq]
  generalize (lg_sl ([.int 0, .int 1]) ++ List.replicate (2 - (lg_sl ([.int 0, .int 1])).length) Slot.unset).toArray = ls at hl ⊢
  have hl : lv_has ls 2 [(0, .int 0), (1, .int 1)] := hl
  refine lv_iload_n hx hb dX10_mustBeWhat_0 rfl (lv_at hl 0 rfl) ?_
  refine lv_if_lt (tgt := 9) hx hb dX10_mustBeWhat_1 rfl (fun c9 => absurd c9 (by decide)) (fun _ => ?_)
  refine lv_iload_n hx hb dX10_mustBeWhat_4 rfl (lv_at hl 0 rfl) ?_
  refine lv_iload_n hx hb dX10_mustBeWhat_5 rfl (lv_at hl 1 rfl) ?_
  refine lv_icmp_le (tgt := 20) hx hb dX10_mustBeWhat_6 rfl (fun _ => ?_) (fun c9 => absurd (by decide) c9)
  have hP9 := hP
  have hD9 := hD
  exact W.vret hx hb hr (fun t ht hW => ⟨⟨(), rfl, trivial, by rw [ht]; exact hP9, hD9⟩, hS.F ht⟩) hS.2.2 dX10_mustBeWhat_20
def rm_s10_mustBeWhat_w1 : Room := { frames := 0, cells := 0, slots := 0, locals := 0 }
set_option maxHeartbeats 4000000 in
set_option maxRecDepth 100000 in
theorem s10_mustBeWhat_w1 (l : Launch) (dC : Nat → ClassId) (dI : Nat → Nat → Nat) (kB kI kJ kZ kC kS : ClassId) (sz : Nat)  : Met l yX10_mustBeWhat wsX10_mustBeWhat rm_s10_mustBeWhat_w1 (va_Pc [.int 1, .int 1] (fun U => U.heap.size = sz ∧ va_P (dC, dI) vwCl [] U.heap ∧ kE dC dI kB kI kJ kZ kC kS U ∧ va_D (fun _ => True) [])) (va_Qv (fun (_ : Unit) => True) (fun _ t => va_P (dC, dI) vwCl [] t.heap ∧ va_D (va_A [] sz) []) (va_A [] sz)) 0 0 (va_A [] sz) := by
  refine Met.ofW (cc := cX10_mustBeWhat) (maxL := 2) (ret := none) (by decide) rfl ?_
  intro p e s m args0 below meth c s₁ B hml hv
  obtain ⟨hargs, hsz, hP, hE, hD0⟩ := hv
  have hx := B.exec
  have hb := B.bytes
  have hr := B.returns
  have hts := atoms_spec (ws := wsX10_mustBeWhat) B.pre
  have hown : s.vm.findClass RX10 = some m.cls := findClass_of_methodNamed B.named
  have hlocks := B.notSynchronized
  have hK := hE.1
  subst hsz
  have hD := hD0.self (sz := s.heap.size)
  generalize hAe : va_A [] s.heap.size = A at hD ⊢
  have hA : ∀ q : Nat, s.heap.size ≤ q → A q := fun q h => by rw [← hAe]; exact Or.inr h
  have hS : va_S A s.heap s.heap [] := va_S.rf
  have hP : va_P (dC, dI) vwCl [] s.heap := hP
  have hl := lv_entry ([.int 1, .int 1]) (n := 2) (Nat.le_of_ble_eq_true rfl)
  have hla : entryFrame m args0 2 = entryFrame m ([.int 1, .int 1] : List Value).toArray 2 := by rw [hargs]
  rw [hla, lg_entry_eq]
  generalize (lg_sl ([.int 1, .int 1]) ++ List.replicate (2 - (lg_sl ([.int 1, .int 1])).length) Slot.unset).toArray = ls at hl ⊢
  have hl : lv_has ls 2 [(0, .int 1), (1, .int 1)] := hl
  refine lv_iload_n hx hb dX10_mustBeWhat_0 rfl (lv_at hl 0 rfl) ?_
  refine lv_if_lt (tgt := 9) hx hb dX10_mustBeWhat_1 rfl (fun c9 => absurd c9 (by decide)) (fun _ => ?_)
  refine lv_iload_n hx hb dX10_mustBeWhat_4 rfl (lv_at hl 0 rfl) ?_
  refine lv_iload_n hx hb dX10_mustBeWhat_5 rfl (lv_at hl 1 rfl) ?_
  refine lv_icmp_le (tgt := 20) hx hb dX10_mustBeWhat_6 rfl (fun _ => ?_) (fun c9 => absurd (by decide) c9)
  have hP9 := hP
  have hD9 := hD
  exact W.vret hx hb hr (fun t ht hW => ⟨⟨(), rfl, trivial, by rw [ht]; exact hP9, hD9⟩, hS.F ht⟩) hS.2.2 dX10_mustBeWhat_20
