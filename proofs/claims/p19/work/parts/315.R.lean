def rm_s11_seenAt : Room := { frames := 0, cells := 0, slots := 0, locals := 0 }
set_option maxHeartbeats 4000000 in
set_option maxRecDepth 100000 in
theorem s11_seenAt (l : Launch) (dC : Nat → ClassId) (dI : Nat → Nat → Nat) (kB kI kJ kZ kC kS : ClassId) (sz : Nat) (p0 : Int32) (p1 : Int32) (p2 : Int32) (hp0 : iv 0 31 p0) (hp1 : iv 0 2 p1) (hp2 : iv 1 10 p2) : Met l yX11_seenAt wsX11_seenAt rm_s11_seenAt (va_Pc [.int p0, .int p1, .int p2] (fun U => U.heap.size = sz ∧ va_P (dC, dI) vwCl [] U.heap ∧ kE dC dI kB kI kJ kZ kC kS U ∧ va_D (fun _ => True) [])) (va_Qi (fun (r : Int32) (_ : Unit) => r = (59 + (10 * ((3 * p0) + p1)) + p2) - 1 ∧ iv 59 1018 r) (fun _ t => va_P (dC, dI) vwCl [] t.heap ∧ va_D (va_A [] sz) []) (va_A [] sz)) 0 0 (va_A [] sz) := by
  refine Met.ofW (cc := cX11_seenAt) (maxL := 3) (ret := (some .int)) (by decide) rfl ?_
  intro p e s m args0 below meth c s₁ B hml hv
  obtain ⟨hargs, hsz, hP, hE, hD0⟩ := hv
  have hx := B.exec
  have hb := B.bytes
  have hr := B.returns
  have hts := atoms_spec (ws := wsX11_seenAt) B.pre
  have hown : s.vm.findClass RX11 = some m.cls := findClass_of_methodNamed B.named
  have hlocks := B.notSynchronized
  have hK := hE.1
  subst hsz
  have hD := hD0.self (sz := s.heap.size)
  generalize hAe : va_A [] s.heap.size = A at hD ⊢
  have hA : ∀ q : Nat, s.heap.size ≤ q → A q := fun q h => by rw [← hAe]; exact Or.inr h
  have hS : va_S A s.heap s.heap [] := va_S.rf
  have hP : va_P (dC, dI) vwCl [] s.heap := hP
  have hl := lv_entry ([.int p0, .int p1, .int p2]) (n := 3) (Nat.le_of_ble_eq_true rfl)
  have hla : entryFrame m args0 3 = entryFrame m ([.int p0, .int p1, .int p2] : List Value).toArray 3 := by rw [hargs]
  rw [hla, lg_entry_eq]
  generalize (lg_sl ([.int p0, .int p1, .int p2]) ++ List.replicate (3 - (lg_sl ([.int p0, .int p1, .int p2])).length) Slot.unset).toArray = ls at hl ⊢
  have hl : lv_has ls 3 [(0, .int p0), (1, .int p1), (2, .int p2)] := hl
  refine lv_bipush (v := 59) hx hb dX11_seenAt_0 bp_59 ?_
  refine lv_bipush (v := 10) hx hb dX11_seenAt_2 bp_10 ?_
  refine lv_iconst (v := 3) hx hb dX11_seenAt_4 ic_3 ?_
  refine lv_iload_n hx hb dX11_seenAt_5 rfl (lv_at hl 0 rfl) ?_
  refine lv_imul hx hb dX11_seenAt_6 ?_
  have b1 : iv 0 93 (3 * p0) := iv_mul ivk_3 hp0 (by decide) (by decide) (by decide) (by decide) (by decide)
  refine lv_iload_n hx hb dX11_seenAt_7 rfl (lv_at hl 1 rfl) ?_
  refine lv_iadd hx hb dX11_seenAt_8 ?_
  have b2 : iv 0 95 ((3 * p0) + p1) := iv_add b1 hp1 (by decide) (by decide) (by decide) (by decide)
  refine lv_imul hx hb dX11_seenAt_9 ?_
  have b3 : iv 0 950 (10 * ((3 * p0) + p1)) := iv_mul ivk_10 b2 (by decide) (by decide) (by decide) (by decide) (by decide)
  refine lv_iadd hx hb dX11_seenAt_10 ?_
  have b4 : iv 59 1009 (59 + (10 * ((3 * p0) + p1))) := iv_add ivk_59 b3 (by decide) (by decide) (by decide) (by decide)
  refine lv_iload_n hx hb dX11_seenAt_11 rfl (lv_at hl 2 rfl) ?_
  refine lv_iadd hx hb dX11_seenAt_12 ?_
  have b5 : iv 60 1019 ((59 + (10 * ((3 * p0) + p1))) + p2) := iv_add b4 hp2 (by decide) (by decide) (by decide) (by decide)
  refine lv_iconst (v := 1) hx hb dX11_seenAt_13 ic_1 ?_
  refine lv_isub hx hb dX11_seenAt_14 ?_
  have b6 : iv 59 1018 (((59 + (10 * ((3 * p0) + p1))) + p2) - 1) := iv_sub b5 ivk_1 (by decide) (by decide) (by decide) (by decide)
  have hP9 := hP
  have hD9 := hD
  exact W.iret (v := ((59 + (10 * ((3 * p0) + p1))) + p2) - 1) hx hb hr (fun t ht hW => ⟨⟨((59 + (10 * ((3 * p0) + p1))) + p2) - 1, (), rfl, ⟨rfl, b6⟩, by rw [ht]; exact hP9, hD9⟩, hS.F ht⟩) hS.2.2 dX11_seenAt_15
def rm_s11_seenAt0 : Room := { frames := 0, cells := 0, slots := 0, locals := 0 }
set_option maxHeartbeats 4000000 in
set_option maxRecDepth 100000 in
theorem s11_seenAt0 (l : Launch) (dC : Nat → ClassId) (dI : Nat → Nat → Nat) (kB kI kJ kZ kC kS : ClassId) (sz : Nat) (p0 : Int32) (p1 : Int32) (p2 : Int32) (hp0 : iv 0 31 p0) (hp1 : iv 0 2 p1) (hp2 : iv 0 10 p2) : Met l yX11_seenAt wsX11_seenAt rm_s11_seenAt0 (va_Pc [.int p0, .int p1, .int p2] (fun U => U.heap.size = sz ∧ va_P (dC, dI) vwCl [] U.heap ∧ kE dC dI kB kI kJ kZ kC kS U ∧ va_D (fun _ => True) [])) (va_Qi (fun (r : Int32) (_ : Unit) => r = (59 + (10 * ((3 * p0) + p1)) + p2) - 1 ∧ iv 58 1018 r) (fun _ t => va_P (dC, dI) vwCl [] t.heap ∧ va_D (va_A [] sz) []) (va_A [] sz)) 0 0 (va_A [] sz) := by
  refine Met.ofW (cc := cX11_seenAt) (maxL := 3) (ret := (some .int)) (by decide) rfl ?_
  intro p e s m args0 below meth c s₁ B hml hv
  obtain ⟨hargs, hsz, hP, hE, hD0⟩ := hv
  have hx := B.exec
  have hb := B.bytes
  have hr := B.returns
  have hts := atoms_spec (ws := wsX11_seenAt) B.pre
  have hown : s.vm.findClass RX11 = some m.cls := findClass_of_methodNamed B.named
  have hlocks := B.notSynchronized
  have hK := hE.1
  subst hsz
  have hD := hD0.self (sz := s.heap.size)
  generalize hAe : va_A [] s.heap.size = A at hD ⊢
  have hA : ∀ q : Nat, s.heap.size ≤ q → A q := fun q h => by rw [← hAe]; exact Or.inr h
  have hS : va_S A s.heap s.heap [] := va_S.rf
  have hP : va_P (dC, dI) vwCl [] s.heap := hP
  have hl := lv_entry ([.int p0, .int p1, .int p2]) (n := 3) (Nat.le_of_ble_eq_true rfl)
  have hla : entryFrame m args0 3 = entryFrame m ([.int p0, .int p1, .int p2] : List Value).toArray 3 := by rw [hargs]
  rw [hla, lg_entry_eq]
  generalize (lg_sl ([.int p0, .int p1, .int p2]) ++ List.replicate (3 - (lg_sl ([.int p0, .int p1, .int p2])).length) Slot.unset).toArray = ls at hl ⊢
  have hl : lv_has ls 3 [(0, .int p0), (1, .int p1), (2, .int p2)] := hl
  refine lv_bipush (v := 59) hx hb dX11_seenAt_0 bp_59 ?_
  refine lv_bipush (v := 10) hx hb dX11_seenAt_2 bp_10 ?_
  refine lv_iconst (v := 3) hx hb dX11_seenAt_4 ic_3 ?_
  refine lv_iload_n hx hb dX11_seenAt_5 rfl (lv_at hl 0 rfl) ?_
  refine lv_imul hx hb dX11_seenAt_6 ?_
  have b1 : iv 0 93 (3 * p0) := iv_mul ivk_3 hp0 (by decide) (by decide) (by decide) (by decide) (by decide)
  refine lv_iload_n hx hb dX11_seenAt_7 rfl (lv_at hl 1 rfl) ?_
  refine lv_iadd hx hb dX11_seenAt_8 ?_
  have b2 : iv 0 95 ((3 * p0) + p1) := iv_add b1 hp1 (by decide) (by decide) (by decide) (by decide)
  refine lv_imul hx hb dX11_seenAt_9 ?_
  have b3 : iv 0 950 (10 * ((3 * p0) + p1)) := iv_mul ivk_10 b2 (by decide) (by decide) (by decide) (by decide) (by decide)
  refine lv_iadd hx hb dX11_seenAt_10 ?_
  have b4 : iv 59 1009 (59 + (10 * ((3 * p0) + p1))) := iv_add ivk_59 b3 (by decide) (by decide) (by decide) (by decide)
  refine lv_iload_n hx hb dX11_seenAt_11 rfl (lv_at hl 2 rfl) ?_
  refine lv_iadd hx hb dX11_seenAt_12 ?_
  have b5 : iv 59 1019 ((59 + (10 * ((3 * p0) + p1))) + p2) := iv_add b4 hp2 (by decide) (by decide) (by decide) (by decide)
  refine lv_iconst (v := 1) hx hb dX11_seenAt_13 ic_1 ?_
  refine lv_isub hx hb dX11_seenAt_14 ?_
  have b6 : iv 58 1018 (((59 + (10 * ((3 * p0) + p1))) + p2) - 1) := iv_sub b5 ivk_1 (by decide) (by decide) (by decide) (by decide)
  have hP9 := hP
  have hD9 := hD
  exact W.iret (v := ((59 + (10 * ((3 * p0) + p1))) + p2) - 1) hx hb hr (fun t ht hW => ⟨⟨((59 + (10 * ((3 * p0) + p1))) + p2) - 1, (), rfl, ⟨rfl, b6⟩, by rw [ht]; exact hP9, hD9⟩, hS.F ht⟩) hS.2.2 dX11_seenAt_15
def rm_s11_sentAt : Room := { frames := 0, cells := 0, slots := 0, locals := 0 }
set_option maxHeartbeats 4000000 in
set_option maxRecDepth 100000 in
theorem s11_sentAt (l : Launch) (dC : Nat → ClassId) (dI : Nat → Nat → Nat) (kB kI kJ kZ kC kS : ClassId) (sz : Nat) (p0 : Int32) (p1 : Int32) (hp0 : iv 0 2 p0) (hp1 : iv 1 10 p1) : Met l yX11_sentAt wsX11_sentAt rm_s11_sentAt (va_Pc [.int p0, .int p1] (fun U => U.heap.size = sz ∧ va_P (dC, dI) vwCl [] U.heap ∧ kE dC dI kB kI kJ kZ kC kS U ∧ va_D (fun _ => True) [])) (va_Qi (fun (r : Int32) (_ : Unit) => iv 24 53 r) (fun _ t => va_P (dC, dI) vwCl [] t.heap ∧ va_D (va_A [] sz) []) (va_A [] sz)) 0 0 (va_A [] sz) := by
  refine Met.ofW (cc := cX11_sentAt) (maxL := 2) (ret := (some .int)) (by decide) rfl ?_
  intro p e s m args0 below meth c s₁ B hml hv
  obtain ⟨hargs, hsz, hP, hE, hD0⟩ := hv
  have hx := B.exec
  have hb := B.bytes
  have hr := B.returns
  have hts := atoms_spec (ws := wsX11_sentAt) B.pre
  have hown : s.vm.findClass RX11 = some m.cls := findClass_of_methodNamed B.named
  have hlocks := B.notSynchronized
  have hK := hE.1
  subst hsz
  have hD := hD0.self (sz := s.heap.size)
  generalize hAe : va_A [] s.heap.size = A at hD ⊢
  have hA : ∀ q : Nat, s.heap.size ≤ q → A q := fun q h => by rw [← hAe]; exact Or.inr h
  have hS : va_S A s.heap s.heap [] := va_S.rf
  have hP : va_P (dC, dI) vwCl [] s.heap := hP
  have hl := lv_entry ([.int p0, .int p1]) (n := 2) (Nat.le_of_ble_eq_true rfl)
  have hla : entryFrame m args0 2 = entryFrame m ([.int p0, .int p1] : List Value).toArray 2 := by rw [hargs]
  rw [hla, lg_entry_eq]
  generalize (lg_sl ([.int p0, .int p1]) ++ List.replicate (2 - (lg_sl ([.int p0, .int p1])).length) Slot.unset).toArray = ls at hl ⊢
  have hl : lv_has ls 2 [(0, .int p0), (1, .int p1)] := hl
  refine lv_bipush (v := 24) hx hb dX11_sentAt_0 bp_24 ?_
  refine lv_bipush (v := 10) hx hb dX11_sentAt_2 bp_10 ?_
  refine lv_iload_n hx hb dX11_sentAt_4 rfl (lv_at hl 0 rfl) ?_
  refine lv_imul hx hb dX11_sentAt_5 ?_
  refine iv_top (a := 0) (b := 20) (iv_mul ivk_10 hp0 (by decide) (by decide) (by decide) (by decide) (by decide)) (fun z1 b2 => ?_)
  refine lv_iadd hx hb dX11_sentAt_6 ?_
  refine iv_top (a := 24) (b := 44) (iv_add ivk_24 b2 (by decide) (by decide) (by decide) (by decide)) (fun z3 b4 => ?_)
  refine lv_iload_n hx hb dX11_sentAt_7 rfl (lv_at hl 1 rfl) ?_
  refine lv_iadd hx hb dX11_sentAt_8 ?_
  refine iv_top (a := 25) (b := 54) (iv_add b4 hp1 (by decide) (by decide) (by decide) (by decide)) (fun z5 b6 => ?_)
  refine lv_iconst (v := 1) hx hb dX11_sentAt_9 ic_1 ?_
  refine lv_isub hx hb dX11_sentAt_10 ?_
  refine iv_top (a := 24) (b := 53) (iv_sub b6 ivk_1 (by decide) (by decide) (by decide) (by decide)) (fun z7 b8 => ?_)
  have hP9 := hP
  have hD9 := hD
  exact W.iret (v := z7) hx hb hr (fun t ht hW => ⟨⟨z7, (), rfl, b8, by rw [ht]; exact hP9, hD9⟩, hS.F ht⟩) hS.2.2 dX11_sentAt_11
def rm_s11_seenBy : Room := { frames := 1, cells := 0, slots := 0, locals := 22 }
set_option maxHeartbeats 4000000 in
set_option maxRecDepth 100000 in
theorem s11_seenBy (l : Launch) (dC : Nat → ClassId) (dI : Nat → Nat → Nat) (kB kI kJ kZ kC kS : ClassId) (sz : Nat) (m0 : Nat) (ra : Nat → Nat) (x0 : Nat → Int32) (q_now : Nat → Int32) (p0 : Int32) (p1 : Int32) (p2 : Int32) (hX : fI lX11 hX11 x0) (hq_now : fI lNow hNow q_now) (hp0 : iv 0 31 p0) (hp1 : iv 0 2 p1) (hp2 : iv 1 10 p2) : Met l yX11_seenBy wsX11_seenBy rm_s11_seenBy (va_Pc [.ref m0, .int p0, .int p1, .int p2] (fun U => U.heap.size = sz ∧ va_P (dC, dI) vwCl [(m0, .inr (11, oX11 ra x0)), (ra 11, .inl (kI, 1019, .inl q_now))] U.heap ∧ kE dC dI kB kI kJ kZ kC kS U ∧ va_D (fun _ => True) [(m0, .inr (11, oX11 ra x0)), (ra 11, .inl (kI, 1019, .inl q_now))])) (va_Qi (fun (r : Int32) (_ : Unit) => r = q_now ((59 + (10 * ((3 * p0) + p1)) + p2) - 1).toNatClampNeg - 1 ∧ iv (-1) 20 r) (fun _ t => va_P (dC, dI) vwCl [(m0, .inr (11, oX11 ra x0)), (ra 11, .inl (kI, 1019, .inl q_now))] t.heap ∧ va_D (va_A [(m0, .inr (11, oX11 ra x0)), (ra 11, .inl (kI, 1019, .inl q_now))] sz) [(m0, .inr (11, oX11 ra x0)), (ra 11, .inl (kI, 1019, .inl q_now))]) (va_A [(m0, .inr (11, oX11 ra x0)), (ra 11, .inl (kI, 1019, .inl q_now))] sz)) 0 0 (va_A [(m0, .inr (11, oX11 ra x0)), (ra 11, .inl (kI, 1019, .inl q_now))] sz) := by
  refine Met.ofW (cc := cX11_seenBy) (maxL := 4) (ret := (some .int)) (by decide) rfl ?_
  intro p e s m args0 below meth c s₁ B hml hv
  obtain ⟨hargs, hsz, hP, hE, hD0⟩ := hv
  have hx := B.exec
  have hb := B.bytes
  have hr := B.returns
  have hts := atoms_spec (ws := wsX11_seenBy) B.pre
  have hown : s.vm.findClass RX11 = some m.cls := findClass_of_methodNamed B.named
  have hlocks := B.notSynchronized
  have hK := hE.1
  have hin11 : ∀ w ∈ wsX110, w ∈ wsX11_seenBy := fun _ h9 => List.mem_cons_of_mem _ (List.mem_append_right _ h9)
  have hw_0 := hts (.fieldLink RX11 60 "PathProberModel" "now" "[I") (List.mem_of_getElem? (i := 1) rfl)
  subst hsz
  have hD := hD0.self (sz := s.heap.size)
  generalize hAe : va_A [(m0, .inr (11, oX11 ra x0)), (ra 11, .inl (kI, 1019, .inl q_now))] s.heap.size = A at hD ⊢
  have hA : ∀ q : Nat, s.heap.size ≤ q → A q := fun q h => by rw [← hAe]; exact Or.inr h
  have hS : va_S A s.heap s.heap [] := va_S.rf
  have hP : va_P (dC, dI) vwCl [(m0, .inr (11, oX11 ra x0)), (ra 11, .inl (kI, 1019, .inl q_now))] s.heap := hP
  have hl := lv_entry ([.ref m0, .int p0, .int p1, .int p2]) (n := 4) (Nat.le_of_ble_eq_true rfl)
  have hla : entryFrame m args0 4 = entryFrame m ([.ref m0, .int p0, .int p1, .int p2] : List Value).toArray 4 := by rw [hargs]
  rw [hla, lg_entry_eq]
  generalize (lg_sl ([.ref m0, .int p0, .int p1, .int p2]) ++ List.replicate (4 - (lg_sl ([.ref m0, .int p0, .int p1, .int p2])).length) Slot.unset).toArray = ls at hl ⊢
  have hl : lv_has ls 4 [(0, .ref m0), (1, .int p0), (2, .int p1), (3, .int p2)] := hl
  refine lv_aload_n hx hb dX11_seenBy_0 rfl (lv_at hl 0 rfl) ?_
  refine va_get (D := (dC, dI)) (ci := 11) (v := .ref (ra 11)) (C := RX11) (T := TX11) (N := 61) hx hb hts hin11 hown hK hP 0 rfl rfl 12 (Nat.le_of_ble_eq_true rfl) hw_0 (fun _ h9 => h9) rfl dX11_seenBy_1 ?_
  refine lv_iload_n hx hb dX11_seenBy_4 rfl (lv_at hl 1 rfl) ?_
  refine lv_iload_n hx hb dX11_seenBy_5 rfl (lv_at hl 2 rfl) ?_
  refine lv_iload_n hx hb dX11_seenBy_6 rfl (lv_at hl 3 rfl) ?_
  obtain ⟨hPc, hDc, hFc, hJn⟩ := cl_a (wc := []) (wr := [(m0, .inr (11, oX11 ra x0)), (ra 11, .inl (kI, 1019, .inl q_now))]) hP hD hS hA [] [0, 1] rfl rfl (by decide +kernel)
  refine va_calli (va_runS (As := [.int p0, .int p1, .int p2]) (rest := [.ref (ra 11)]) ⟨hx, hb, hml, hown, hts⟩ (s11_seenAt l dC dI kB kI kJ kZ kC kS s.heap.size p0 p1 p2 (hp0) (hp1) (hp2)) (va_cwS 3 hts gX11_seenBy_X11_seenAt rfl rfl rfl (by decide +kernel) ⟨Nat.le_of_ble_eq_true rfl, Nat.le_of_ble_eq_true rfl⟩) ⟨fun a U g mk q => by obtain ⟨q0, q1, qP, qE, qD⟩ := q; exact ⟨q0, q1, qP, kE_call qE, qD⟩, fun U hU hW => ⟨rfl, by rw [hU], by rw [hU]; exact hPc, kE_warm hW hE, hDc.weaken (fun _ _ _ _ => trivial)⟩⟩ rfl rfl hl.1 rfl (lv_room (Nat.le_of_ble_eq_true rfl)) dX11_seenBy_7 ⟨Nat.le_of_ble_eq_true rfl, Nat.le_of_ble_eq_true rfl⟩) hS (fun q _ h => hFc q h) hFc (fun r1 u t H locs ht hvm w2 hB hz1 hk1 hS => ?_)
  obtain ⟨hP1, hD1⟩ := hB
  try dsimp only at w2
  obtain ⟨hPa, hDa⟩ := hJn (w1 := []) hk1 ht hP1 hD1
  clear hP hD hPc hDc hFc hJn hP1 hD1 hk1
  have hP : va_P (dC, dI) vwCl [(m0, .inr (11, oX11 ra x0)), (ra 11, .inl (kI, 1019, .inl q_now))] H := hPa
  have hD : va_D A [(m0, .inr (11, oX11 ra x0)), (ra 11, .inl (kI, 1019, .inl q_now))] := hDa
  clear hPa hDa
  refine W.widen (k := 0) (n := 0) (Nat.le_of_ble_eq_true rfl) (Nat.le_of_ble_eq_true rfl) ?_
  obtain ⟨w2, b3⟩ := w2
  subst w2
  refine va_iald hx hb hK hP 1 1 rfl rfl (iv_in b3 (by decide) (by decide)) dX11_seenBy_10 ?_
  have b4 : iv 0 21 (q_now ((59 + (10 * ((3 * p0) + p1)) + p2) - 1).toNatClampNeg) := now_s hq_now b3 (by decide)
  refine lv_iconst (v := 1) hx hb dX11_seenBy_11 ic_1 ?_
  refine lv_isub hx hb dX11_seenBy_12 ?_
  have b5 : iv (-1) 20 ((q_now ((59 + (10 * ((3 * p0) + p1)) + p2) - 1).toNatClampNeg) - 1) := iv_sub b4 ivk_1 (by decide) (by decide) (by decide) (by decide)
  have hP9 := hP
  have hD9 := hD
  exact W.iret (v := (q_now ((59 + (10 * ((3 * p0) + p1)) + p2) - 1).toNatClampNeg) - 1) hx hb hr (fun t ht hW => ⟨⟨(q_now ((59 + (10 * ((3 * p0) + p1)) + p2) - 1).toNatClampNeg) - 1, (), rfl, ⟨rfl, b5⟩, by rw [ht]; exact hP9, hD9⟩, hS.F ht⟩) hS.2.2 dX11_seenBy_13
def rm_s11_seenBy0 : Room := { frames := 1, cells := 0, slots := 0, locals := 22 }
set_option maxHeartbeats 4000000 in
set_option maxRecDepth 100000 in
theorem s11_seenBy0 (l : Launch) (dC : Nat → ClassId) (dI : Nat → Nat → Nat) (kB kI kJ kZ kC kS : ClassId) (sz : Nat) (m0 : Nat) (ra : Nat → Nat) (x0 : Nat → Int32) (q_now : Nat → Int32) (p0 : Int32) (p1 : Int32) (p2 : Int32) (hX : fI lX11 hX11 x0) (hq_now : fI lNow hNow q_now) (hp0 : iv 0 31 p0) (hp1 : iv 0 2 p1) (hp2 : iv 0 10 p2) : Met l yX11_seenBy wsX11_seenBy rm_s11_seenBy0 (va_Pc [.ref m0, .int p0, .int p1, .int p2] (fun U => U.heap.size = sz ∧ va_P (dC, dI) vwCl [(m0, .inr (11, oX11 ra x0)), (ra 11, .inl (kI, 1019, .inl q_now))] U.heap ∧ kE dC dI kB kI kJ kZ kC kS U ∧ va_D (fun _ => True) [(m0, .inr (11, oX11 ra x0)), (ra 11, .inl (kI, 1019, .inl q_now))])) (va_Qi (fun (r : Int32) (_ : Unit) => True) (fun _ t => va_P (dC, dI) vwCl [(m0, .inr (11, oX11 ra x0)), (ra 11, .inl (kI, 1019, .inl q_now))] t.heap ∧ va_D (va_A [(m0, .inr (11, oX11 ra x0)), (ra 11, .inl (kI, 1019, .inl q_now))] sz) [(m0, .inr (11, oX11 ra x0)), (ra 11, .inl (kI, 1019, .inl q_now))]) (va_A [(m0, .inr (11, oX11 ra x0)), (ra 11, .inl (kI, 1019, .inl q_now))] sz)) 0 0 (va_A [(m0, .inr (11, oX11 ra x0)), (ra 11, .inl (kI, 1019, .inl q_now))] sz) := by
  refine Met.ofW (cc := cX11_seenBy) (maxL := 4) (ret := (some .int)) (by decide) rfl ?_
  intro p e s m args0 below meth c s₁ B hml hv
  obtain ⟨hargs, hsz, hP, hE, hD0⟩ := hv
  have hx := B.exec
  have hb := B.bytes
  have hr := B.returns
  have hts := atoms_spec (ws := wsX11_seenBy) B.pre
  have hown : s.vm.findClass RX11 = some m.cls := findClass_of_methodNamed B.named
  have hlocks := B.notSynchronized
  have hK := hE.1
  have hin11 : ∀ w ∈ wsX110, w ∈ wsX11_seenBy := fun _ h9 => List.mem_cons_of_mem _ (List.mem_append_right _ h9)
  have hw_0 := hts (.fieldLink RX11 60 "PathProberModel" "now" "[I") (List.mem_of_getElem? (i := 1) rfl)
  subst hsz
  have hD := hD0.self (sz := s.heap.size)
  generalize hAe : va_A [(m0, .inr (11, oX11 ra x0)), (ra 11, .inl (kI, 1019, .inl q_now))] s.heap.size = A at hD ⊢
  have hA : ∀ q : Nat, s.heap.size ≤ q → A q := fun q h => by rw [← hAe]; exact Or.inr h
  have hS : va_S A s.heap s.heap [] := va_S.rf
  have hP : va_P (dC, dI) vwCl [(m0, .inr (11, oX11 ra x0)), (ra 11, .inl (kI, 1019, .inl q_now))] s.heap := hP
  have hl := lv_entry ([.ref m0, .int p0, .int p1, .int p2]) (n := 4) (Nat.le_of_ble_eq_true rfl)
  have hla : entryFrame m args0 4 = entryFrame m ([.ref m0, .int p0, .int p1, .int p2] : List Value).toArray 4 := by rw [hargs]
  rw [hla, lg_entry_eq]
  generalize (lg_sl ([.ref m0, .int p0, .int p1, .int p2]) ++ List.replicate (4 - (lg_sl ([.ref m0, .int p0, .int p1, .int p2])).length) Slot.unset).toArray = ls at hl ⊢
  have hl : lv_has ls 4 [(0, .ref m0), (1, .int p0), (2, .int p1), (3, .int p2)] := hl
  refine lv_aload_n hx hb dX11_seenBy_0 rfl (lv_at hl 0 rfl) ?_
  refine va_get (D := (dC, dI)) (ci := 11) (v := .ref (ra 11)) (C := RX11) (T := TX11) (N := 61) hx hb hts hin11 hown hK hP 0 rfl rfl 12 (Nat.le_of_ble_eq_true rfl) hw_0 (fun _ h9 => h9) rfl dX11_seenBy_1 ?_
  refine lv_iload_n hx hb dX11_seenBy_4 rfl (lv_at hl 1 rfl) ?_
  refine lv_iload_n hx hb dX11_seenBy_5 rfl (lv_at hl 2 rfl) ?_
  refine lv_iload_n hx hb dX11_seenBy_6 rfl (lv_at hl 3 rfl) ?_
  obtain ⟨hPc, hDc, hFc, hJn⟩ := cl_a (wc := []) (wr := [(m0, .inr (11, oX11 ra x0)), (ra 11, .inl (kI, 1019, .inl q_now))]) hP hD hS hA [] [0, 1] rfl rfl (by decide +kernel)
  refine va_calli (va_runS (As := [.int p0, .int p1, .int p2]) (rest := [.ref (ra 11)]) ⟨hx, hb, hml, hown, hts⟩ (s11_seenAt0 l dC dI kB kI kJ kZ kC kS s.heap.size p0 p1 p2 (hp0) (hp1) (hp2)) (va_cwS 3 hts gX11_seenBy_X11_seenAt rfl rfl rfl (by decide +kernel) ⟨Nat.le_of_ble_eq_true rfl, Nat.le_of_ble_eq_true rfl⟩) ⟨fun a U g mk q => by obtain ⟨q0, q1, qP, qE, qD⟩ := q; exact ⟨q0, q1, qP, kE_call qE, qD⟩, fun U hU hW => ⟨rfl, by rw [hU], by rw [hU]; exact hPc, kE_warm hW hE, hDc.weaken (fun _ _ _ _ => trivial)⟩⟩ rfl rfl hl.1 rfl (lv_room (Nat.le_of_ble_eq_true rfl)) dX11_seenBy_7 ⟨Nat.le_of_ble_eq_true rfl, Nat.le_of_ble_eq_true rfl⟩) hS (fun q _ h => hFc q h) hFc (fun r1 u t H locs ht hvm w2 hB hz1 hk1 hS => ?_)
  obtain ⟨hP1, hD1⟩ := hB
  try dsimp only at w2
  obtain ⟨hPa, hDa⟩ := hJn (w1 := []) hk1 ht hP1 hD1
  clear hP hD hPc hDc hFc hJn hP1 hD1 hk1
  have hP : va_P (dC, dI) vwCl [(m0, .inr (11, oX11 ra x0)), (ra 11, .inl (kI, 1019, .inl q_now))] H := hPa
  have hD : va_D A [(m0, .inr (11, oX11 ra x0)), (ra 11, .inl (kI, 1019, .inl q_now))] := hDa
  clear hPa hDa
  refine W.widen (k := 0) (n := 0) (Nat.le_of_ble_eq_true rfl) (Nat.le_of_ble_eq_true rfl) ?_
  obtain ⟨w2, b3⟩ := w2
  subst w2
  refine va_iald hx hb hK hP 1 1 rfl rfl (iv_in b3 (by decide) (by decide)) dX11_seenBy_10 ?_
  refine lv_topi (fun z4 _ => ?_)
  refine lv_iconst (v := 1) hx hb dX11_seenBy_11 ic_1 ?_
  refine lv_isub hx hb dX11_seenBy_12 ?_
  refine lv_topi (fun z5 _ => ?_)
  have hP9 := hP
  have hD9 := hD
  exact W.iret (v := z5) hx hb hr (fun t ht hW => ⟨⟨z5, (), rfl, trivial, by rw [ht]; exact hP9, hD9⟩, hS.F ht⟩) hS.2.2 dX11_seenBy_13
def rm_s11_addresses : Room := { frames := 2, cells := 0, slots := 0, locals := 45 }
set_option maxHeartbeats 4000000 in
set_option maxRecDepth 100000 in
theorem s11_addresses (l : Launch) (dC : Nat → ClassId) (dI : Nat → Nat → Nat) (kB kI kJ kZ kC kS : ClassId) (sz : Nat) (m0 : Nat) (ra : Nat → Nat) (x0 : Nat → Int32) (q_now : Nat → Int32) (p0 : Int32) (p1 : Int32) (hX : fI lX11 hX11 x0) (hq_now : fI lNow hNow q_now) (hp0 : iv 0 2 p0) (hp1 : iv 1 10 p1) : Met l yX11_addresses wsX11_addresses rm_s11_addresses (va_Pc [.ref m0, .int p0, .int p1] (fun U => U.heap.size = sz ∧ va_P (dC, dI) vwCl [(m0, .inr (11, oX11 ra x0)), (ra 11, .inl (kI, 1019, .inl q_now))] U.heap ∧ kE dC dI kB kI kJ kZ kC kS U ∧ va_D (fun _ => True) [(m0, .inr (11, oX11 ra x0)), (ra 11, .inl (kI, 1019, .inl q_now))])) (va_Qi (fun (r : Int32) (_ : Unit) => iv 0 2097151 r) (fun _ t => va_P (dC, dI) vwCl [(m0, .inr (11, oX11 ra x0)), (ra 11, .inl (kI, 1019, .inl q_now))] t.heap ∧ va_D (va_A [(m0, .inr (11, oX11 ra x0)), (ra 11, .inl (kI, 1019, .inl q_now))] sz) [(m0, .inr (11, oX11 ra x0)), (ra 11, .inl (kI, 1019, .inl q_now))]) (va_A [(m0, .inr (11, oX11 ra x0)), (ra 11, .inl (kI, 1019, .inl q_now))] sz)) 0 0 (va_A [(m0, .inr (11, oX11 ra x0)), (ra 11, .inl (kI, 1019, .inl q_now))] sz) := by
  refine Met.ofW (cc := cX11_addresses) (maxL := 5) (ret := (some .int)) (by decide) rfl ?_
  intro p e s m args0 below meth c s₁ B hml hv
  obtain ⟨hargs, hsz, hP, hE, hD0⟩ := hv
  have hx := B.exec
  have hb := B.bytes
  have hr := B.returns
  have hts := atoms_spec (ws := wsX11_addresses) B.pre
  have hown : s.vm.findClass RX11 = some m.cls := findClass_of_methodNamed B.named
  have hlocks := B.notSynchronized
  have hK := hE.1
  have hin11 : ∀ w ∈ wsX110, w ∈ wsX11_addresses := fun _ h9 => List.mem_cons_of_mem _ (List.mem_append_right _ h9)
  subst hsz
  have hD := hD0.self (sz := s.heap.size)
  generalize hAe : va_A [(m0, .inr (11, oX11 ra x0)), (ra 11, .inl (kI, 1019, .inl q_now))] s.heap.size = A at hD ⊢
  have hA : ∀ q : Nat, s.heap.size ≤ q → A q := fun q h => by rw [← hAe]; exact Or.inr h
  have hS : va_S A s.heap s.heap [] := va_S.rf
  have hP : va_P (dC, dI) vwCl [(m0, .inr (11, oX11 ra x0)), (ra 11, .inl (kI, 1019, .inl q_now))] s.heap := hP
  have hl := lv_entry ([.ref m0, .int p0, .int p1]) (n := 5) (Nat.le_of_ble_eq_true rfl)
  have hla : entryFrame m args0 5 = entryFrame m ([.ref m0, .int p0, .int p1] : List Value).toArray 5 := by rw [hargs]
  rw [hla, lg_entry_eq]
  generalize (lg_sl ([.ref m0, .int p0, .int p1]) ++ List.replicate (5 - (lg_sl ([.ref m0, .int p0, .int p1])).length) Slot.unset).toArray = ls at hl ⊢
  have hl : lv_has ls 5 [(0, .ref m0), (1, .int p0), (2, .int p1)] := hl
  have hJ5 : ∀ (n : Nat) (v5_loc3 : Int32) (v5_loc4 : Int32) (H : Heap) (locs : List Loc) (ls : Array Slot), (32 - v5_loc4.toInt).toNat < n → iv 0 2097151 v5_loc3 → iv 0 32 v5_loc4 → (x0 1 = x0 1) → (x0 10 = x0 10) → (x0 11 = x0 11) → (x0 14 = x0 14) → va_P (dC, dI) vwCl [(m0, .inr (11, oX11 ra x0)), (ra 11, .inl (kI, 1019, .inl q_now))] H → va_D A [(m0, .inr (11, oX11 ra x0)), (ra 11, .inl (kI, 1019, .inl q_now))] → va_S A s.heap H locs → lv_has ls 5 [(0, .ref m0), (1, .int p0), (2, .int p1), (3, .int v5_loc3), (4, .int v5_loc4)] → W p l e (headSpec wsX11_addresses rm_s11_addresses).room s m args0 below meth c H locs (0) (0) (MQ below (va_Qi (fun (r : Int32) (_ : Unit) => iv 0 2097151 r) (fun _ t => va_P (dC, dI) vwCl [(m0, .inr (11, oX11 ra x0)), (ra 11, .inl (kI, 1019, .inl q_now))] t.heap ∧ va_D A [(m0, .inr (11, oX11 ra x0)), (ra 11, .inl (kI, 1019, .inl q_now))]) A) args0 s 0 0 A) (F0 m 5 ls []) := by
    intro n
    induction n with
    | zero => intro v5_loc3 v5_loc4 H locs ls hm5; exact absurd hm5 (Nat.not_lt_zero _)
    | succ n ih5 =>
      intro v5_loc3 v5_loc4 H locs ls hm5 h5_1 h5_2 htp_5 hfp_5 hor_5 hirl_5 hP hD hS hl
      have hJ39 : ∀ (v39_stk0 : Int32) (H : Heap) (locs : List Loc) (ls : Array Slot), iv 0 31 v5_loc4 → iv 0 1048576 v39_stk0 → iv (-1) 20 (q_now ((59 + (10 * ((3 * v5_loc4) + p0)) + p1) - 1).toNatClampNeg - 1) → (x0 1 = x0 1) → (x0 10 = x0 10) → (x0 11 = x0 11) → (x0 14 = x0 14) → va_P (dC, dI) vwCl [(m0, .inr (11, oX11 ra x0)), (ra 11, .inl (kI, 1019, .inl q_now))] H → va_D A [(m0, .inr (11, oX11 ra x0)), (ra 11, .inl (kI, 1019, .inl q_now))] → va_S A s.heap H locs → lv_has ls 5 [(0, .ref m0), (1, .int p0), (2, .int p1), (3, .int v5_loc3), (4, .int v5_loc4)] → W p l e (headSpec wsX11_addresses rm_s11_addresses).room s m args0 below meth c H locs (0) (0) (MQ below (va_Qi (fun (r : Int32) (_ : Unit) => iv 0 2097151 r) (fun _ t => va_P (dC, dI) vwCl [(m0, .inr (11, oX11 ra x0)), (ra 11, .inl (kI, 1019, .inl q_now))] t.heap ∧ va_D A [(m0, .inr (11, oX11 ra x0)), (ra 11, .inl (kI, 1019, .inl q_now))]) A) args0 s 0 0 A) (F0 m 39 ls [.int v39_stk0, .int v5_loc3]) := by
        intro v39_stk0 H locs ls h39_1 h39_2 h39_3 htp_39 hfp_39 hor_39 hirl_39 hP hD hS hl
        refine lv_ior hx hb dX11_addresses_39 ?_
        refine iv_top (a := 0) (b := 2097151) (iv_or 21 h5_1 h39_2 (by decide) (by decide) (by decide) (by decide) (by decide) (by decide)) (fun z1 b2 => ?_)
        refine lv_istore_n (lv' := [(3, .int z1), (0, .ref m0), (1, .int p0), (2, .int p1), (4, .int v5_loc4)]) hx hb dX11_addresses_40 rfl hl (Nat.le_of_ble_eq_true rfl) rfl (fun ls hl => ?_)
        refine lv_iinc (v := v5_loc4 + Int32.ofInt 1) (lv' := [(4, .int (v5_loc4 + Int32.ofInt 1)), (3, .int z1), (0, .ref m0), (1, .int p0), (2, .int p1)]) hx hb dX11_addresses_41 hl (k := 4) rfl (rfl) (Nat.le_of_ble_eq_true rfl) rfl (fun ls hl => ?_)
        have b3 : iv 1 32 (v5_loc4 + Int32.ofInt 1) := iv_add h39_1 ivo_1 (by decide) (by decide) (by decide) (by decide)
        refine lv_goto (tgt := 5) hx hb dX11_addresses_44 rfl ?_
        exact ih5 z1 (v5_loc4 + Int32.ofInt 1) _ _ _ (ms_up (c := 1) (d := 0) h39_1 hm5 (by decide) (iv_inc 1 h39_1 (by decide) (by decide) (by decide) (by decide)) (by decide) rfl) (b2) ((iv_w b3 (by decide) (by decide))) ((show x0 1 = x0 1 from rfl)) ((show x0 10 = x0 10 from rfl)) ((show x0 11 = x0 11 from rfl)) ((show x0 14 = x0 14 from rfl)) (hP) (hD) hS (lv_sub hl [2, 3, 4, 1, 0] rfl)
      refine lv_iload hx hb dX11_addresses_5 (lv_at hl 4 rfl) ?_
      refine lv_bipush (v := 32) hx hb dX11_addresses_7 bp_32 ?_
      refine lv_icmp_ge (tgt := 47) hx hb dX11_addresses_9 rfl (fun c4 => ?_) (fun c4 => ?_)
      · have b5 : iv 32 32 v5_loc4 := iv_leR c4 ivk_32 h5_2 (by decide) (by decide)
        refine lv_iload_n hx hb dX11_addresses_47 rfl (lv_at hl 3 rfl) ?_
        have hP9 := hP
        have hD9 := hD
        exact W.iret (v := v5_loc3) hx hb hr (fun t ht hW => ⟨⟨v5_loc3, (), rfl, h5_1, by rw [ht]; exact hP9, hD9⟩, hS.F ht⟩) hS.2.2 dX11_addresses_48
      · have b6 : iv 0 31 v5_loc4 := iv_ltL (Int32.not_le.mp c4) h5_2 ivk_32 (by decide) (by decide)
        refine lv_iload_n hx hb dX11_addresses_12 rfl (lv_at hl 3 rfl) ?_
        refine lv_aload_n hx hb dX11_addresses_13 rfl (lv_at hl 0 rfl) ?_
        refine lv_iload hx hb dX11_addresses_14 (lv_at hl 4 rfl) ?_
        refine lv_iload_n hx hb dX11_addresses_16 rfl (lv_at hl 1 rfl) ?_
        refine lv_iload_n hx hb dX11_addresses_17 rfl (lv_at hl 2 rfl) ?_
        obtain ⟨hPc, hDc, hFc, hJn⟩ := cl_a (wc := [(m0, .inr (11, oX11 ra x0)), (ra 11, .inl (kI, 1019, .inl q_now))]) (wr := []) hP hD hS hA [0, 1] [] rfl rfl (by decide +kernel)
        refine va_calli (va_runV (As := [.int v5_loc4, .int p0, .int p1]) (rest := [.int v5_loc3]) ⟨hx, hb, hml, hown, hts⟩ (s11_seenBy l dC dI kB kI kJ kZ kC kS H.size m0 ra x0 q_now v5_loc4 p0 p1 (hX) (hq_now) (b6) (hp0) (hp1)) (cwV 3 hts gX11_addresses_X11_seenBy rfl rfl rfl (by decide +kernel) ⟨Nat.le_of_ble_eq_true rfl, Nat.le_of_ble_eq_true rfl⟩) ⟨fun a U g mk q => by obtain ⟨q0, q1, qP, qE, qD⟩ := q; exact ⟨q0, q1, qP, kE_call qE, qD⟩, va_recv hK hP (ci := 11) (q0 := 0) rfl rfl, fun U hU hW => ⟨rfl, by rw [hU], by rw [hU]; exact hPc, kE_warm hW hE, hDc.weaken (fun _ _ _ _ => trivial)⟩⟩ rfl rfl hl.1 rfl (lv_room (Nat.le_of_ble_eq_true rfl)) dX11_addresses_18 ⟨Nat.le_of_ble_eq_true rfl, Nat.le_of_ble_eq_true rfl⟩) hS (fun q _ h => hFc q h) hFc (fun r7 u t H locs ht hvm w8 hB hz1 hk1 hS => ?_)
        obtain ⟨hP1, hD1⟩ := hB
        try dsimp only at w8
        obtain ⟨hPa, hDa⟩ := hJn (w1 := [(m0, .inr (11, oX11 ra x0)), (ra 11, .inl (kI, 1019, .inl q_now))]) hk1 ht hP1 hD1
        clear hP hD hPc hDc hFc hJn hP1 hD1 hk1
        have hP : va_P (dC, dI) vwCl [(m0, .inr (11, oX11 ra x0)), (ra 11, .inl (kI, 1019, .inl q_now))] H := hPa
        have hD : va_D A [(m0, .inr (11, oX11 ra x0)), (ra 11, .inl (kI, 1019, .inl q_now))] := hDa
        clear hPa hDa
        refine W.widen (k := 0) (n := 0) (Nat.le_of_ble_eq_true rfl) (Nat.le_of_ble_eq_true rfl) ?_
        obtain ⟨w8, b9⟩ := w8
        subst w8
        refine lv_iconst (v := (-1)) hx hb dX11_addresses_21 ic_m1 ?_
        refine lv_icmp_eq (tgt := 38) hx hb dX11_addresses_22 rfl (fun c10 => ?_) (fun c10 => ?_)
        · have b11 : iv (-1) (-1) (q_now ((59 + (10 * ((3 * v5_loc4) + p0)) + p1) - 1).toNatClampNeg - 1) := iv_eqL c10 ivk_m1
          refine lv_iconst (v := 0) hx hb dX11_addresses_38 ic_0 ?_
          exact hJ39 0 _ _ _ (b6) ((iv_w ivk_0 (by decide) (by decide))) ((iv_w b11 (by decide) (by decide))) ((show x0 1 = x0 1 from rfl)) ((show x0 10 = x0 10 from rfl)) ((show x0 11 = x0 11 from rfl)) ((show x0 14 = x0 14 from rfl)) (hP) (hD) hS (lv_sub hl [0, 1, 2, 3, 4] rfl)
        · have b12 : iv 0 20 (q_now ((59 + (10 * ((3 * v5_loc4) + p0)) + p1) - 1).toNatClampNeg - 1) := iv_neLo c10 b9 ivk_m1 (by decide) (by decide)
          refine lv_iconst (v := 1) hx hb dX11_addresses_25 ic_1 ?_
          refine lv_aload_n hx hb dX11_addresses_26 rfl (lv_at hl 0 rfl) ?_
          refine lv_iload hx hb dX11_addresses_27 (lv_at hl 4 rfl) ?_
          refine lv_iload_n hx hb dX11_addresses_29 rfl (lv_at hl 1 rfl) ?_
          refine lv_iload_n hx hb dX11_addresses_30 rfl (lv_at hl 2 rfl) ?_
          obtain ⟨hPc, hDc, hFc, hJn⟩ := cl_a (wc := [(m0, .inr (11, oX11 ra x0)), (ra 11, .inl (kI, 1019, .inl q_now))]) (wr := []) hP hD hS hA [0, 1] [] rfl rfl (by decide +kernel)
          refine va_calli (va_runV (As := [.int v5_loc4, .int p0, .int p1]) (rest := [.int 1, .int v5_loc3]) ⟨hx, hb, hml, hown, hts⟩ (s11_seenBy l dC dI kB kI kJ kZ kC kS H.size m0 ra x0 q_now v5_loc4 p0 p1 (hX) (hq_now) (b6) (hp0) (hp1)) (cwV 3 hts gX11_addresses_X11_seenBy rfl rfl rfl (by decide +kernel) ⟨Nat.le_of_ble_eq_true rfl, Nat.le_of_ble_eq_true rfl⟩) ⟨fun a U g mk q => by obtain ⟨q0, q1, qP, qE, qD⟩ := q; exact ⟨q0, q1, qP, kE_call qE, qD⟩, va_recv hK hP (ci := 11) (q0 := 0) rfl rfl, fun U hU hW => ⟨rfl, by rw [hU], by rw [hU]; exact hPc, kE_warm hW hE, hDc.weaken (fun _ _ _ _ => trivial)⟩⟩ rfl rfl hl.1 rfl (lv_room (Nat.le_of_ble_eq_true rfl)) dX11_addresses_31 ⟨Nat.le_of_ble_eq_true rfl, Nat.le_of_ble_eq_true rfl⟩) hS (fun q _ h => hFc q h) hFc (fun r13 u t H locs ht hvm w14 hB hz1 hk1 hS => ?_)
          obtain ⟨hP1, hD1⟩ := hB
          try dsimp only at w14
          obtain ⟨hPa, hDa⟩ := hJn (w1 := [(m0, .inr (11, oX11 ra x0)), (ra 11, .inl (kI, 1019, .inl q_now))]) hk1 ht hP1 hD1
          clear hP hD hPc hDc hFc hJn hP1 hD1 hk1
          have hP : va_P (dC, dI) vwCl [(m0, .inr (11, oX11 ra x0)), (ra 11, .inl (kI, 1019, .inl q_now))] H := hPa
          have hD : va_D A [(m0, .inr (11, oX11 ra x0)), (ra 11, .inl (kI, 1019, .inl q_now))] := hDa
          clear hPa hDa
          refine W.widen (k := 0) (n := 0) (Nat.le_of_ble_eq_true rfl) (Nat.le_of_ble_eq_true rfl) ?_
          obtain ⟨w14, b15⟩ := w14
          subst w14
          refine lv_ishl hx hb dX11_addresses_34 ?_
          refine iv_top (a := 0) (b := 1048576) (iv_shl1 20 b12 (by decide) (by decide) (by decide) (by decide)) (fun z16 b17 => ?_)
          refine lv_goto (tgt := 39) hx hb dX11_addresses_35 rfl ?_
          exact hJ39 z16 _ _ _ (b6) (b17) ((iv_w b12 (by decide) (by decide))) ((show x0 1 = x0 1 from rfl)) ((show x0 10 = x0 10 from rfl)) ((show x0 11 = x0 11 from rfl)) ((show x0 14 = x0 14 from rfl)) (hP) (hD) hS (lv_sub hl [0, 1, 2, 3, 4] rfl)
  refine lv_iconst (v := 0) hx hb dX11_addresses_0 ic_0 ?_
  refine lv_istore_n (lv' := [(3, .int 0), (0, .ref m0), (1, .int p0), (2, .int p1)]) hx hb dX11_addresses_1 rfl hl (Nat.le_of_ble_eq_true rfl) rfl (fun ls hl => ?_)
  refine lv_iconst (v := 0) hx hb dX11_addresses_2 ic_0 ?_
  refine lv_istore (lv' := [(4, .int 0), (3, .int 0), (0, .ref m0), (1, .int p0), (2, .int p1)]) hx hb dX11_addresses_3 hl (Nat.le_of_ble_eq_true rfl) rfl (fun ls hl => ?_)
  exact hJ5 _ 0 0 _ _ _ (Nat.lt_succ_self _) ((iv_w ivk_0 (by decide) (by decide))) ((iv_w ivk_0 (by decide) (by decide))) ((show x0 1 = x0 1 from rfl)) ((show x0 10 = x0 10 from rfl)) ((show x0 11 = x0 11 from rfl)) ((show x0 14 = x0 14 from rfl)) (hP) (hD) hS (lv_sub hl [2, 3, 4, 1, 0] rfl)
def rm_s11_addresses0 : Room := { frames := 2, cells := 0, slots := 0, locals := 45 }
set_option maxHeartbeats 4000000 in
set_option maxRecDepth 100000 in
theorem s11_addresses0 (l : Launch) (dC : Nat → ClassId) (dI : Nat → Nat → Nat) (kB kI kJ kZ kC kS : ClassId) (sz : Nat) (m0 : Nat) (ra : Nat → Nat) (x0 : Nat → Int32) (q_now : Nat → Int32) (p0 : Int32) (p1 : Int32) (hX : fI lX11 hX11 x0) (hq_now : fI lNow hNow q_now) (hp0 : iv 0 2 p0) (hp1 : iv 0 10 p1) : Met l yX11_addresses wsX11_addresses rm_s11_addresses0 (va_Pc [.ref m0, .int p0, .int p1] (fun U => U.heap.size = sz ∧ va_P (dC, dI) vwCl [(m0, .inr (11, oX11 ra x0)), (ra 11, .inl (kI, 1019, .inl q_now))] U.heap ∧ kE dC dI kB kI kJ kZ kC kS U ∧ va_D (fun _ => True) [(m0, .inr (11, oX11 ra x0)), (ra 11, .inl (kI, 1019, .inl q_now))])) (va_Qi (fun (r : Int32) (_ : Unit) => True) (fun _ t => va_P (dC, dI) vwCl [(m0, .inr (11, oX11 ra x0)), (ra 11, .inl (kI, 1019, .inl q_now))] t.heap ∧ va_D (va_A [(m0, .inr (11, oX11 ra x0)), (ra 11, .inl (kI, 1019, .inl q_now))] sz) [(m0, .inr (11, oX11 ra x0)), (ra 11, .inl (kI, 1019, .inl q_now))]) (va_A [(m0, .inr (11, oX11 ra x0)), (ra 11, .inl (kI, 1019, .inl q_now))] sz)) 0 0 (va_A [(m0, .inr (11, oX11 ra x0)), (ra 11, .inl (kI, 1019, .inl q_now))] sz) := by
  refine Met.ofW (cc := cX11_addresses) (maxL := 5) (ret := (some .int)) (by decide) rfl ?_
  intro p e s m args0 below meth c s₁ B hml hv
  obtain ⟨hargs, hsz, hP, hE, hD0⟩ := hv
  have hx := B.exec
  have hb := B.bytes
  have hr := B.returns
  have hts := atoms_spec (ws := wsX11_addresses) B.pre
  have hown : s.vm.findClass RX11 = some m.cls := findClass_of_methodNamed B.named
  have hlocks := B.notSynchronized
  have hK := hE.1
  have hin11 : ∀ w ∈ wsX110, w ∈ wsX11_addresses := fun _ h9 => List.mem_cons_of_mem _ (List.mem_append_right _ h9)
  subst hsz
  have hD := hD0.self (sz := s.heap.size)
  generalize hAe : va_A [(m0, .inr (11, oX11 ra x0)), (ra 11, .inl (kI, 1019, .inl q_now))] s.heap.size = A at hD ⊢
  have hA : ∀ q : Nat, s.heap.size ≤ q → A q := fun q h => by rw [← hAe]; exact Or.inr h
  have hS : va_S A s.heap s.heap [] := va_S.rf
  have hP : va_P (dC, dI) vwCl [(m0, .inr (11, oX11 ra x0)), (ra 11, .inl (kI, 1019, .inl q_now))] s.heap := hP
  have hl := lv_entry ([.ref m0, .int p0, .int p1]) (n := 5) (Nat.le_of_ble_eq_true rfl)
  have hla : entryFrame m args0 5 = entryFrame m ([.ref m0, .int p0, .int p1] : List Value).toArray 5 := by rw [hargs]
  rw [hla, lg_entry_eq]
  generalize (lg_sl ([.ref m0, .int p0, .int p1]) ++ List.replicate (5 - (lg_sl ([.ref m0, .int p0, .int p1])).length) Slot.unset).toArray = ls at hl ⊢
  have hl : lv_has ls 5 [(0, .ref m0), (1, .int p0), (2, .int p1)] := hl
  have hJ5 : ∀ (n : Nat) (v5_loc3 : Int32) (v5_loc4 : Int32) (H : Heap) (locs : List Loc) (ls : Array Slot), (32 - v5_loc4.toInt).toNat < n → iv 0 32 v5_loc4 → (x0 1 = x0 1) → (x0 10 = x0 10) → (x0 11 = x0 11) → (x0 14 = x0 14) → va_P (dC, dI) vwCl [(m0, .inr (11, oX11 ra x0)), (ra 11, .inl (kI, 1019, .inl q_now))] H → va_D A [(m0, .inr (11, oX11 ra x0)), (ra 11, .inl (kI, 1019, .inl q_now))] → va_S A s.heap H locs → lv_has ls 5 [(0, .ref m0), (1, .int p0), (2, .int p1), (3, .int v5_loc3), (4, .int v5_loc4)] → W p l e (headSpec wsX11_addresses rm_s11_addresses0).room s m args0 below meth c H locs (0) (0) (MQ below (va_Qi (fun (r : Int32) (_ : Unit) => True) (fun _ t => va_P (dC, dI) vwCl [(m0, .inr (11, oX11 ra x0)), (ra 11, .inl (kI, 1019, .inl q_now))] t.heap ∧ va_D A [(m0, .inr (11, oX11 ra x0)), (ra 11, .inl (kI, 1019, .inl q_now))]) A) args0 s 0 0 A) (F0 m 5 ls []) := by
    intro n
    induction n with
    | zero => intro v5_loc3 v5_loc4 H locs ls hm5; exact absurd hm5 (Nat.not_lt_zero _)
    | succ n ih5 =>
      intro v5_loc3 v5_loc4 H locs ls hm5 h5_1 htp_5 hfp_5 hor_5 hirl_5 hP hD hS hl
      have hJ39 : ∀ (v39_stk0 : Int32) (H : Heap) (locs : List Loc) (ls : Array Slot), iv 0 31 v5_loc4 → (x0 1 = x0 1) → (x0 10 = x0 10) → (x0 11 = x0 11) → (x0 14 = x0 14) → va_P (dC, dI) vwCl [(m0, .inr (11, oX11 ra x0)), (ra 11, .inl (kI, 1019, .inl q_now))] H → va_D A [(m0, .inr (11, oX11 ra x0)), (ra 11, .inl (kI, 1019, .inl q_now))] → va_S A s.heap H locs → lv_has ls 5 [(0, .ref m0), (1, .int p0), (2, .int p1), (3, .int v5_loc3), (4, .int v5_loc4)] → W p l e (headSpec wsX11_addresses rm_s11_addresses0).room s m args0 below meth c H locs (0) (0) (MQ below (va_Qi (fun (r : Int32) (_ : Unit) => True) (fun _ t => va_P (dC, dI) vwCl [(m0, .inr (11, oX11 ra x0)), (ra 11, .inl (kI, 1019, .inl q_now))] t.heap ∧ va_D A [(m0, .inr (11, oX11 ra x0)), (ra 11, .inl (kI, 1019, .inl q_now))]) A) args0 s 0 0 A) (F0 m 39 ls [.int v39_stk0, .int v5_loc3]) := by
        intro v39_stk0 H locs ls h39_1 htp_39 hfp_39 hor_39 hirl_39 hP hD hS hl
        refine lv_ior hx hb dX11_addresses_39 ?_
        refine lv_topi (fun z1 _ => ?_)
        refine lv_istore_n (lv' := [(3, .int z1), (0, .ref m0), (1, .int p0), (2, .int p1), (4, .int v5_loc4)]) hx hb dX11_addresses_40 rfl hl (Nat.le_of_ble_eq_true rfl) rfl (fun ls hl => ?_)
        refine lv_iinc (v := v5_loc4 + Int32.ofInt 1) (lv' := [(4, .int (v5_loc4 + Int32.ofInt 1)), (3, .int z1), (0, .ref m0), (1, .int p0), (2, .int p1)]) hx hb dX11_addresses_41 hl (k := 4) rfl (rfl) (Nat.le_of_ble_eq_true rfl) rfl (fun ls hl => ?_)
        have b2 : iv 1 32 (v5_loc4 + Int32.ofInt 1) := iv_add h39_1 ivo_1 (by decide) (by decide) (by decide) (by decide)
        refine lv_goto (tgt := 5) hx hb dX11_addresses_44 rfl ?_
        exact ih5 z1 (v5_loc4 + Int32.ofInt 1) _ _ _ (ms_up (c := 1) (d := 0) h39_1 hm5 (by decide) (iv_inc 1 h39_1 (by decide) (by decide) (by decide) (by decide)) (by decide) rfl) ((iv_w b2 (by decide) (by decide))) ((show x0 1 = x0 1 from rfl)) ((show x0 10 = x0 10 from rfl)) ((show x0 11 = x0 11 from rfl)) ((show x0 14 = x0 14 from rfl)) (hP) (hD) hS (lv_sub hl [2, 3, 4, 1, 0] rfl)
      refine lv_iload hx hb dX11_addresses_5 (lv_at hl 4 rfl) ?_
      refine lv_bipush (v := 32) hx hb dX11_addresses_7 bp_32 ?_
      refine lv_icmp_ge (tgt := 47) hx hb dX11_addresses_9 rfl (fun c3 => ?_) (fun c3 => ?_)
      · have b4 : iv 32 32 v5_loc4 := iv_leR c3 ivk_32 h5_1 (by decide) (by decide)
        refine lv_iload_n hx hb dX11_addresses_47 rfl (lv_at hl 3 rfl) ?_
        have hP9 := hP
        have hD9 := hD
        exact W.iret (v := v5_loc3) hx hb hr (fun t ht hW => ⟨⟨v5_loc3, (), rfl, trivial, by rw [ht]; exact hP9, hD9⟩, hS.F ht⟩) hS.2.2 dX11_addresses_48
      · have b5 : iv 0 31 v5_loc4 := iv_ltL (Int32.not_le.mp c3) h5_1 ivk_32 (by decide) (by decide)
        refine lv_iload_n hx hb dX11_addresses_12 rfl (lv_at hl 3 rfl) ?_
        refine lv_aload_n hx hb dX11_addresses_13 rfl (lv_at hl 0 rfl) ?_
        refine lv_iload hx hb dX11_addresses_14 (lv_at hl 4 rfl) ?_
        refine lv_iload_n hx hb dX11_addresses_16 rfl (lv_at hl 1 rfl) ?_
        refine lv_iload_n hx hb dX11_addresses_17 rfl (lv_at hl 2 rfl) ?_
        obtain ⟨hPc, hDc, hFc, hJn⟩ := cl_a (wc := [(m0, .inr (11, oX11 ra x0)), (ra 11, .inl (kI, 1019, .inl q_now))]) (wr := []) hP hD hS hA [0, 1] [] rfl rfl (by decide +kernel)
        refine va_calli (va_runV (As := [.int v5_loc4, .int p0, .int p1]) (rest := [.int v5_loc3]) ⟨hx, hb, hml, hown, hts⟩ (s11_seenBy0 l dC dI kB kI kJ kZ kC kS H.size m0 ra x0 q_now v5_loc4 p0 p1 (hX) (hq_now) (b5) (hp0) (hp1)) (cwV 3 hts gX11_addresses_X11_seenBy rfl rfl rfl (by decide +kernel) ⟨Nat.le_of_ble_eq_true rfl, Nat.le_of_ble_eq_true rfl⟩) ⟨fun a U g mk q => by obtain ⟨q0, q1, qP, qE, qD⟩ := q; exact ⟨q0, q1, qP, kE_call qE, qD⟩, va_recv hK hP (ci := 11) (q0 := 0) rfl rfl, fun U hU hW => ⟨rfl, by rw [hU], by rw [hU]; exact hPc, kE_warm hW hE, hDc.weaken (fun _ _ _ _ => trivial)⟩⟩ rfl rfl hl.1 rfl (lv_room (Nat.le_of_ble_eq_true rfl)) dX11_addresses_18 ⟨Nat.le_of_ble_eq_true rfl, Nat.le_of_ble_eq_true rfl⟩) hS (fun q _ h => hFc q h) hFc (fun r6 u t H locs ht hvm w7 hB hz1 hk1 hS => ?_)
        obtain ⟨hP1, hD1⟩ := hB
        try dsimp only at w7
        obtain ⟨hPa, hDa⟩ := hJn (w1 := [(m0, .inr (11, oX11 ra x0)), (ra 11, .inl (kI, 1019, .inl q_now))]) hk1 ht hP1 hD1
        clear hP hD hPc hDc hFc hJn hP1 hD1 hk1
        have hP : va_P (dC, dI) vwCl [(m0, .inr (11, oX11 ra x0)), (ra 11, .inl (kI, 1019, .inl q_now))] H := hPa
        have hD : va_D A [(m0, .inr (11, oX11 ra x0)), (ra 11, .inl (kI, 1019, .inl q_now))] := hDa
        clear hPa hDa
        refine W.widen (k := 0) (n := 0) (Nat.le_of_ble_eq_true rfl) (Nat.le_of_ble_eq_true rfl) ?_
        refine lv_iconst (v := (-1)) hx hb dX11_addresses_21 ic_m1 ?_
        refine lv_icmp_eq (tgt := 38) hx hb dX11_addresses_22 rfl (fun c8 => ?_) (fun c8 => ?_)
        · have b9 : iv (-1) (-1) r6 := iv_eqL c8 ivk_m1
          refine lv_iconst (v := 0) hx hb dX11_addresses_38 ic_0 ?_
          exact hJ39 0 _ _ _ (b5) ((show x0 1 = x0 1 from rfl)) ((show x0 10 = x0 10 from rfl)) ((show x0 11 = x0 11 from rfl)) ((show x0 14 = x0 14 from rfl)) (hP) (hD) hS (lv_sub hl [0, 1, 2, 3, 4] rfl)
        · refine lv_iconst (v := 1) hx hb dX11_addresses_25 ic_1 ?_
          refine lv_aload_n hx hb dX11_addresses_26 rfl (lv_at hl 0 rfl) ?_
          refine lv_iload hx hb dX11_addresses_27 (lv_at hl 4 rfl) ?_
          refine lv_iload_n hx hb dX11_addresses_29 rfl (lv_at hl 1 rfl) ?_
          refine lv_iload_n hx hb dX11_addresses_30 rfl (lv_at hl 2 rfl) ?_
          obtain ⟨hPc, hDc, hFc, hJn⟩ := cl_a (wc := [(m0, .inr (11, oX11 ra x0)), (ra 11, .inl (kI, 1019, .inl q_now))]) (wr := []) hP hD hS hA [0, 1] [] rfl rfl (by decide +kernel)
          refine va_calli (va_runV (As := [.int v5_loc4, .int p0, .int p1]) (rest := [.int 1, .int v5_loc3]) ⟨hx, hb, hml, hown, hts⟩ (s11_seenBy0 l dC dI kB kI kJ kZ kC kS H.size m0 ra x0 q_now v5_loc4 p0 p1 (hX) (hq_now) (b5) (hp0) (hp1)) (cwV 3 hts gX11_addresses_X11_seenBy rfl rfl rfl (by decide +kernel) ⟨Nat.le_of_ble_eq_true rfl, Nat.le_of_ble_eq_true rfl⟩) ⟨fun a U g mk q => by obtain ⟨q0, q1, qP, qE, qD⟩ := q; exact ⟨q0, q1, qP, kE_call qE, qD⟩, va_recv hK hP (ci := 11) (q0 := 0) rfl rfl, fun U hU hW => ⟨rfl, by rw [hU], by rw [hU]; exact hPc, kE_warm hW hE, hDc.weaken (fun _ _ _ _ => trivial)⟩⟩ rfl rfl hl.1 rfl (lv_room (Nat.le_of_ble_eq_true rfl)) dX11_addresses_31 ⟨Nat.le_of_ble_eq_true rfl, Nat.le_of_ble_eq_true rfl⟩) hS (fun q _ h => hFc q h) hFc (fun r10 u t H locs ht hvm w11 hB hz1 hk1 hS => ?_)
          obtain ⟨hP1, hD1⟩ := hB
          try dsimp only at w11
          obtain ⟨hPa, hDa⟩ := hJn (w1 := [(m0, .inr (11, oX11 ra x0)), (ra 11, .inl (kI, 1019, .inl q_now))]) hk1 ht hP1 hD1
          clear hP hD hPc hDc hFc hJn hP1 hD1 hk1
          have hP : va_P (dC, dI) vwCl [(m0, .inr (11, oX11 ra x0)), (ra 11, .inl (kI, 1019, .inl q_now))] H := hPa
          have hD : va_D A [(m0, .inr (11, oX11 ra x0)), (ra 11, .inl (kI, 1019, .inl q_now))] := hDa
          clear hPa hDa
          refine W.widen (k := 0) (n := 0) (Nat.le_of_ble_eq_true rfl) (Nat.le_of_ble_eq_true rfl) ?_
          refine lv_ishl hx hb dX11_addresses_34 ?_
          refine lv_topi (fun z12 _ => ?_)
          refine lv_goto (tgt := 39) hx hb dX11_addresses_35 rfl ?_
          exact hJ39 z12 _ _ _ (b5) ((show x0 1 = x0 1 from rfl)) ((show x0 10 = x0 10 from rfl)) ((show x0 11 = x0 11 from rfl)) ((show x0 14 = x0 14 from rfl)) (hP) (hD) hS (lv_sub hl [0, 1, 2, 3, 4] rfl)
  refine lv_iconst (v := 0) hx hb dX11_addresses_0 ic_0 ?_
  refine lv_istore_n (lv' := [(3, .int 0), (0, .ref m0), (1, .int p0), (2, .int p1)]) hx hb dX11_addresses_1 rfl hl (Nat.le_of_ble_eq_true rfl) rfl (fun ls hl => ?_)
  refine lv_iconst (v := 0) hx hb dX11_addresses_2 ic_0 ?_
  refine lv_istore (lv' := [(4, .int 0), (3, .int 0), (0, .ref m0), (1, .int p0), (2, .int p1)]) hx hb dX11_addresses_3 hl (Nat.le_of_ble_eq_true rfl) rfl (fun ls hl => ?_)
  exact hJ5 _ 0 0 _ _ _ (Nat.lt_succ_self _) ((iv_w ivk_0 (by decide) (by decide))) ((show x0 1 = x0 1 from rfl)) ((show x0 10 = x0 10 from rfl)) ((show x0 11 = x0 11 from rfl)) ((show x0 14 = x0 14 from rfl)) (hP) (hD) hS (lv_sub hl [2, 3, 4, 1, 0] rfl)
def rm_s11_sentAll : Room := { frames := 0, cells := 0, slots := 0, locals := 0 }
set_option maxHeartbeats 4000000 in
set_option maxRecDepth 100000 in
theorem s11_sentAll (l : Launch) (dC : Nat → ClassId) (dI : Nat → Nat → Nat) (kB kI kJ kZ kC kS : ClassId) (sz : Nat) (m0 : Nat) (ra : Nat → Nat) (x0 : Nat → Int32) (q_now : Nat → Int32) (hX : fI lX11 hX11 x0) (hq_now : fI lNow hNow q_now) : Met l yX11_sentAll wsX11_sentAll rm_s11_sentAll (va_Pc [.ref m0] (fun U => U.heap.size = sz ∧ va_P (dC, dI) vwCl [(m0, .inr (11, oX11 ra x0)), (ra 11, .inl (kI, 1019, .inl q_now))] U.heap ∧ kE dC dI kB kI kJ kZ kC kS U ∧ va_D (fun _ => True) [(m0, .inr (11, oX11 ra x0)), (ra 11, .inl (kI, 1019, .inl q_now))])) (va_Qi (fun (r : Int32) (_ : Unit) => True) (fun _ t => va_P (dC, dI) vwCl [(m0, .inr (11, oX11 ra x0)), (ra 11, .inl (kI, 1019, .inl q_now))] t.heap ∧ va_D (va_A [(m0, .inr (11, oX11 ra x0)), (ra 11, .inl (kI, 1019, .inl q_now))] sz) [(m0, .inr (11, oX11 ra x0)), (ra 11, .inl (kI, 1019, .inl q_now))]) (va_A [(m0, .inr (11, oX11 ra x0)), (ra 11, .inl (kI, 1019, .inl q_now))] sz)) 0 0 (va_A [(m0, .inr (11, oX11 ra x0)), (ra 11, .inl (kI, 1019, .inl q_now))] sz) := by
  refine Met.ofW (cc := cX11_sentAll) (maxL := 3) (ret := (some .int)) (by decide) rfl ?_
  intro p e s m args0 below meth c s₁ B hml hv
  obtain ⟨hargs, hsz, hP, hE, hD0⟩ := hv
  have hx := B.exec
  have hb := B.bytes
  have hr := B.returns
  have hts := atoms_spec (ws := wsX11_sentAll) B.pre
  have hown : s.vm.findClass RX11 = some m.cls := findClass_of_methodNamed B.named
  have hlocks := B.notSynchronized
  have hK := hE.1
  have hin11 : ∀ w ∈ wsX110, w ∈ wsX11_sentAll := fun _ h9 => List.mem_cons_of_mem _ (List.mem_append_right _ h9)
  have hw_0 := hts (.fieldLink RX11 60 "PathProberModel" "now" "[I") (List.mem_of_getElem? (i := 1) rfl)
  subst hsz
  have hD := hD0.self (sz := s.heap.size)
  generalize hAe : va_A [(m0, .inr (11, oX11 ra x0)), (ra 11, .inl (kI, 1019, .inl q_now))] s.heap.size = A at hD ⊢
  have hA : ∀ q : Nat, s.heap.size ≤ q → A q := fun q h => by rw [← hAe]; exact Or.inr h
  have hS : va_S A s.heap s.heap [] := va_S.rf
  have hP : va_P (dC, dI) vwCl [(m0, .inr (11, oX11 ra x0)), (ra 11, .inl (kI, 1019, .inl q_now))] s.heap := hP
  have hl := lv_entry ([.ref m0]) (n := 3) (Nat.le_of_ble_eq_true rfl)
  have hla : entryFrame m args0 3 = entryFrame m ([.ref m0] : List Value).toArray 3 := by rw [hargs]
  rw [hla, lg_entry_eq]
  generalize (lg_sl ([.ref m0]) ++ List.replicate (3 - (lg_sl ([.ref m0])).length) Slot.unset).toArray = ls at hl ⊢
  have hl : lv_has ls 3 [(0, .ref m0)] := hl
  have hJ4 : ∀ (n : Nat) (v4_loc1 : Int32) (v4_loc2 : Int32) (H : Heap) (locs : List Loc) (ls : Array Slot), (30 - v4_loc2.toInt).toNat < n → iv 0 30 v4_loc2 → (x0 1 = x0 1) → (x0 10 = x0 10) → (x0 11 = x0 11) → (x0 14 = x0 14) → va_P (dC, dI) vwCl [(m0, .inr (11, oX11 ra x0)), (ra 11, .inl (kI, 1019, .inl q_now))] H → va_D A [(m0, .inr (11, oX11 ra x0)), (ra 11, .inl (kI, 1019, .inl q_now))] → va_S A s.heap H locs → lv_has ls 3 [(0, .ref m0), (1, .int v4_loc1), (2, .int v4_loc2)] → W p l e (headSpec wsX11_sentAll rm_s11_sentAll).room s m args0 below meth c H locs (0) (0) (MQ below (va_Qi (fun (r : Int32) (_ : Unit) => True) (fun _ t => va_P (dC, dI) vwCl [(m0, .inr (11, oX11 ra x0)), (ra 11, .inl (kI, 1019, .inl q_now))] t.heap ∧ va_D A [(m0, .inr (11, oX11 ra x0)), (ra 11, .inl (kI, 1019, .inl q_now))]) A) args0 s 0 0 A) (F0 m 4 ls []) := by
    intro n
    induction n with
    | zero => intro v4_loc1 v4_loc2 H locs ls hm4; exact absurd hm4 (Nat.not_lt_zero _)
    | succ n ih4 =>
      intro v4_loc1 v4_loc2 H locs ls hm4 h4_1 htp_4 hfp_4 hor_4 hirl_4 hP hD hS hl
      refine lv_iload_n hx hb dX11_sentAll_4 rfl (lv_at hl 2 rfl) ?_
      refine lv_bipush (v := 30) hx hb dX11_sentAll_5 bp_30 ?_
      refine lv_icmp_ge (tgt := 28) hx hb dX11_sentAll_7 rfl (fun c1 => ?_) (fun c1 => ?_)
      · have b2 : iv 30 30 v4_loc2 := iv_leR c1 ivk_30 h4_1 (by decide) (by decide)
        refine lv_iload_n hx hb dX11_sentAll_28 rfl (lv_at hl 1 rfl) ?_
        have hP9 := hP
        have hD9 := hD
        exact W.iret (v := v4_loc1) hx hb hr (fun t ht hW => ⟨⟨v4_loc1, (), rfl, trivial, by rw [ht]; exact hP9, hD9⟩, hS.F ht⟩) hS.2.2 dX11_sentAll_29
      · have b3 : iv 0 29 v4_loc2 := iv_ltL (Int32.not_le.mp c1) h4_1 ivk_30 (by decide) (by decide)
        refine lv_iload_n hx hb dX11_sentAll_10 rfl (lv_at hl 1 rfl) ?_
        refine lv_aload_n hx hb dX11_sentAll_11 rfl (lv_at hl 0 rfl) ?_
        refine va_get (D := (dC, dI)) (ci := 11) (v := .ref (ra 11)) (C := RX11) (T := TX11) (N := 61) hx hb hts hin11 hown hK hP 0 rfl rfl 12 (Nat.le_of_ble_eq_true rfl) hw_0 (fun _ h9 => h9) rfl dX11_sentAll_12 ?_
        refine lv_bipush (v := 24) hx hb dX11_sentAll_15 bp_24 ?_
        refine lv_iload_n hx hb dX11_sentAll_17 rfl (lv_at hl 2 rfl) ?_
        refine lv_iadd hx hb dX11_sentAll_18 ?_
        refine iv_top (a := 24) (b := 53) (iv_add ivk_24 b3 (by decide) (by decide) (by decide) (by decide)) (fun z4 b5 => ?_)
        refine va_iald hx hb hK hP 1 1 rfl rfl (iv_in b5 (by decide) (by decide)) dX11_sentAll_19 ?_
        refine lv_topi (fun z6 _ => ?_)
        refine lv_iadd hx hb dX11_sentAll_20 ?_
        refine lv_topi (fun z7 _ => ?_)
        refine lv_istore_n (lv' := [(1, .int z7), (0, .ref m0), (2, .int v4_loc2)]) hx hb dX11_sentAll_21 rfl hl (Nat.le_of_ble_eq_true rfl) rfl (fun ls hl => ?_)
        refine lv_iinc (v := v4_loc2 + Int32.ofInt 1) (lv' := [(2, .int (v4_loc2 + Int32.ofInt 1)), (1, .int z7), (0, .ref m0)]) hx hb dX11_sentAll_22 hl (k := 2) rfl (rfl) (Nat.le_of_ble_eq_true rfl) rfl (fun ls hl => ?_)
        have b8 : iv 1 30 (v4_loc2 + Int32.ofInt 1) := iv_add b3 ivo_1 (by decide) (by decide) (by decide) (by decide)
        refine lv_goto (tgt := 4) hx hb dX11_sentAll_25 rfl ?_
        exact ih4 z7 (v4_loc2 + Int32.ofInt 1) _ _ _ (ms_up (c := 1) (d := 0) b3 hm4 (by decide) (iv_inc 1 b3 (by decide) (by decide) (by decide) (by decide)) (by decide) rfl) ((iv_w b8 (by decide) (by decide))) ((show x0 1 = x0 1 from rfl)) ((show x0 10 = x0 10 from rfl)) ((show x0 11 = x0 11 from rfl)) ((show x0 14 = x0 14 from rfl)) (hP) (hD) hS (lv_sub hl [2, 1, 0] rfl)
  refine lv_iconst (v := 0) hx hb dX11_sentAll_0 ic_0 ?_
  refine lv_istore_n (lv' := [(1, .int 0), (0, .ref m0)]) hx hb dX11_sentAll_1 rfl hl (Nat.le_of_ble_eq_true rfl) rfl (fun ls hl => ?_)
  refine lv_iconst (v := 0) hx hb dX11_sentAll_2 ic_0 ?_
  refine lv_istore_n (lv' := [(2, .int 0), (1, .int 0), (0, .ref m0)]) hx hb dX11_sentAll_3 rfl hl (Nat.le_of_ble_eq_true rfl) rfl (fun ls hl => ?_)
  exact hJ4 _ 0 0 _ _ _ (Nat.lt_succ_self _) ((iv_w ivk_0 (by decide) (by decide))) ((show x0 1 = x0 1 from rfl)) ((show x0 10 = x0 10 from rfl)) ((show x0 11 = x0 11 from rfl)) ((show x0 14 = x0 14 from rfl)) (hP) (hD) hS (lv_sub hl [2, 1, 0] rfl)
def rm_s11_isEdge : Room := { frames := 2, cells := 0, slots := 0, locals := 45 }
set_option maxHeartbeats 4000000 in
set_option maxRecDepth 100000 in
theorem s11_isEdge (l : Launch) (dC : Nat → ClassId) (dI : Nat → Nat → Nat) (kB kI kJ kZ kC kS : ClassId) (sz : Nat) (m0 : Nat) (ra : Nat → Nat) (x0 : Nat → Int32) (q_now : Nat → Int32) (p0 : Int32) (p1 : Int32) (p2 : Int32) (p3 : Int32) (hX : fI lX11 hX11 x0) (hq_now : fI lNow hNow q_now) (hp0 : iv 0 2 p0) (hp1 : iv 0 9 p1) : Met l yX11_isEdge wsX11_isEdge rm_s11_isEdge (va_Pc [.ref m0, .int p0, .int p1, .int p2, .int p3] (fun U => U.heap.size = sz ∧ va_P (dC, dI) vwCl [(m0, .inr (11, oX11 ra x0)), (ra 11, .inl (kI, 1019, .inl q_now))] U.heap ∧ kE dC dI kB kI kJ kZ kC kS U ∧ va_D (fun _ => True) [(m0, .inr (11, oX11 ra x0)), (ra 11, .inl (kI, 1019, .inl q_now))])) (va_Qi (fun (r : Int32) (_ : Unit) => iv 0 1 r) (fun _ t => va_P (dC, dI) vwCl [(m0, .inr (11, oX11 ra x0)), (ra 11, .inl (kI, 1019, .inl q_now))] t.heap ∧ va_D (va_A [(m0, .inr (11, oX11 ra x0)), (ra 11, .inl (kI, 1019, .inl q_now))] sz) [(m0, .inr (11, oX11 ra x0)), (ra 11, .inl (kI, 1019, .inl q_now))]) (va_A [(m0, .inr (11, oX11 ra x0)), (ra 11, .inl (kI, 1019, .inl q_now))] sz)) 0 0 (va_A [(m0, .inr (11, oX11 ra x0)), (ra 11, .inl (kI, 1019, .inl q_now))] sz) := by
  refine Met.ofW (cc := cX11_isEdge) (maxL := 7) (ret := (some .boolean)) (by decide) rfl ?_
  intro p e s m args0 below meth c s₁ B hml hv
  obtain ⟨hargs, hsz, hP, hE, hD0⟩ := hv
  have hx := B.exec
  have hb := B.bytes
  have hr := B.returns
  have hts := atoms_spec (ws := wsX11_isEdge) B.pre
  have hown : s.vm.findClass RX11 = some m.cls := findClass_of_methodNamed B.named
  have hlocks := B.notSynchronized
  have hK := hE.1
  have hin11 : ∀ w ∈ wsX110, w ∈ wsX11_isEdge := fun _ h9 => List.mem_cons_of_mem _ (List.mem_append_right _ h9)
  subst hsz
  have hD := hD0.self (sz := s.heap.size)
  generalize hAe : va_A [(m0, .inr (11, oX11 ra x0)), (ra 11, .inl (kI, 1019, .inl q_now))] s.heap.size = A at hD ⊢
  have hA : ∀ q : Nat, s.heap.size ≤ q → A q := fun q h => by rw [← hAe]; exact Or.inr h
  have hS : va_S A s.heap s.heap [] := va_S.rf
  have hP : va_P (dC, dI) vwCl [(m0, .inr (11, oX11 ra x0)), (ra 11, .inl (kI, 1019, .inl q_now))] s.heap := hP
  have hl := lv_entry ([.ref m0, .int p0, .int p1, .int p2, .int p3]) (n := 7) (Nat.le_of_ble_eq_true rfl)
  have hla : entryFrame m args0 7 = entryFrame m ([.ref m0, .int p0, .int p1, .int p2, .int p3] : List Value).toArray 7 := by rw [hargs]
  rw [hla, lg_entry_eq]
  generalize (lg_sl ([.ref m0, .int p0, .int p1, .int p2, .int p3]) ++ List.replicate (7 - (lg_sl ([.ref m0, .int p0, .int p1, .int p2, .int p3])).length) Slot.unset).toArray = ls at hl ⊢
  have hl : lv_has ls 7 [(0, .ref m0), (1, .int p0), (2, .int p1), (3, .int p2), (4, .int p3)] := hl
  have hJ64 : ∀ (v64_loc5 : Int32) (v64_loc6 : Int32) (H : Heap) (locs : List Loc) (ls : Array Slot), iv 0 1 v64_loc5 → iv 0 32 v64_loc6 → (x0 1 = x0 1) → (x0 10 = x0 10) → (x0 11 = x0 11) → (x0 14 = x0 14) → va_P (dC, dI) vwCl [(m0, .inr (11, oX11 ra x0)), (ra 11, .inl (kI, 1019, .inl q_now))] H → va_D A [(m0, .inr (11, oX11 ra x0)), (ra 11, .inl (kI, 1019, .inl q_now))] → va_S A s.heap H locs → lv_has ls 7 [(0, .ref m0), (1, .int p0), (2, .int p1), (3, .int p2), (4, .int p3), (5, .int v64_loc5), (6, .int v64_loc6)] → W p l e (headSpec wsX11_isEdge rm_s11_isEdge).room s m args0 below meth c H locs (0) (0) (MQ below (va_Qi (fun (r : Int32) (_ : Unit) => iv 0 1 r) (fun _ t => va_P (dC, dI) vwCl [(m0, .inr (11, oX11 ra x0)), (ra 11, .inl (kI, 1019, .inl q_now))] t.heap ∧ va_D A [(m0, .inr (11, oX11 ra x0)), (ra 11, .inl (kI, 1019, .inl q_now))]) A) args0 s 0 0 A) (F0 m 64 ls []) := by
    intro v64_loc5 v64_loc6 H locs ls h64_1 h64_2 htp_64 hfp_64 hor_64 hirl_64 hP hD hS hl
    refine lv_iload hx hb dX11_isEdge_64 (lv_at hl 5 rfl) ?_
    have hP9 := hP
    have hD9 := hD
    exact W.zret (v := v64_loc5) (ty := .boolean) hx hb hr (z_nar h64_1) (fun t ht hW => ⟨⟨v64_loc5, (), rfl, h64_1, by rw [ht]; exact hP9, hD9⟩, hS.F ht⟩) hS.2.2 dX11_isEdge_66
  have hJ6 : ∀ (n : Nat) (v6_loc5 : Int32) (v6_loc6 : Int32) (H : Heap) (locs : List Loc) (ls : Array Slot), (32 - v6_loc6.toInt).toNat < n → iv 0 1 v6_loc5 → iv 0 32 v6_loc6 → (x0 1 = x0 1) → (x0 10 = x0 10) → (x0 11 = x0 11) → (x0 14 = x0 14) → va_P (dC, dI) vwCl [(m0, .inr (11, oX11 ra x0)), (ra 11, .inl (kI, 1019, .inl q_now))] H → va_D A [(m0, .inr (11, oX11 ra x0)), (ra 11, .inl (kI, 1019, .inl q_now))] → va_S A s.heap H locs → lv_has ls 7 [(0, .ref m0), (1, .int p0), (2, .int p1), (3, .int p2), (4, .int p3), (5, .int v6_loc5), (6, .int v6_loc6)] → W p l e (headSpec wsX11_isEdge rm_s11_isEdge).room s m args0 below meth c H locs (0) (0) (MQ below (va_Qi (fun (r : Int32) (_ : Unit) => iv 0 1 r) (fun _ t => va_P (dC, dI) vwCl [(m0, .inr (11, oX11 ra x0)), (ra 11, .inl (kI, 1019, .inl q_now))] t.heap ∧ va_D A [(m0, .inr (11, oX11 ra x0)), (ra 11, .inl (kI, 1019, .inl q_now))]) A) args0 s 0 0 A) (F0 m 6 ls []) := by
    intro n
    induction n with
    | zero => intro v6_loc5 v6_loc6 H locs ls hm6; exact absurd hm6 (Nat.not_lt_zero _)
    | succ n ih6 =>
      intro v6_loc5 v6_loc6 H locs ls hm6 h6_1 h6_2 htp_6 hfp_6 hor_6 hirl_6 hP hD hS hl
      have hJ56 : ∀ (v56_stk0 : Int32) (H : Heap) (locs : List Loc) (ls : Array Slot), iv 0 31 v6_loc6 → iv 0 1 v56_stk0 → (x0 1 = x0 1) → (x0 10 = x0 10) → (x0 11 = x0 11) → (x0 14 = x0 14) → va_P (dC, dI) vwCl [(m0, .inr (11, oX11 ra x0)), (ra 11, .inl (kI, 1019, .inl q_now))] H → va_D A [(m0, .inr (11, oX11 ra x0)), (ra 11, .inl (kI, 1019, .inl q_now))] → va_S A s.heap H locs → lv_has ls 7 [(0, .ref m0), (1, .int p0), (2, .int p1), (3, .int p2), (4, .int p3), (5, .int v6_loc5), (6, .int v6_loc6)] → W p l e (headSpec wsX11_isEdge rm_s11_isEdge).room s m args0 below meth c H locs (0) (0) (MQ below (va_Qi (fun (r : Int32) (_ : Unit) => iv 0 1 r) (fun _ t => va_P (dC, dI) vwCl [(m0, .inr (11, oX11 ra x0)), (ra 11, .inl (kI, 1019, .inl q_now))] t.heap ∧ va_D A [(m0, .inr (11, oX11 ra x0)), (ra 11, .inl (kI, 1019, .inl q_now))]) A) args0 s 0 0 A) (F0 m 56 ls [.int v56_stk0]) := by
        intro v56_stk0 H locs ls h56_1 h56_2 htp_56 hfp_56 hor_56 hirl_56 hP hD hS hl
        refine lv_istore (lv' := [(5, .int v56_stk0), (0, .ref m0), (1, .int p0), (2, .int p1), (3, .int p2), (4, .int p3), (6, .int v6_loc6)]) hx hb dX11_isEdge_56 hl (Nat.le_of_ble_eq_true rfl) rfl (fun ls hl => ?_)
        refine lv_iinc (v := v6_loc6 + Int32.ofInt 1) (lv' := [(6, .int (v6_loc6 + Int32.ofInt 1)), (5, .int v56_stk0), (0, .ref m0), (1, .int p0), (2, .int p1), (3, .int p2), (4, .int p3)]) hx hb dX11_isEdge_58 hl (k := 6) rfl (rfl) (Nat.le_of_ble_eq_true rfl) rfl (fun ls hl => ?_)
        have b1 : iv 1 32 (v6_loc6 + Int32.ofInt 1) := iv_add h56_1 ivo_1 (by decide) (by decide) (by decide) (by decide)
        refine lv_goto (tgt := 6) hx hb dX11_isEdge_61 rfl ?_
        exact ih6 v56_stk0 (v6_loc6 + Int32.ofInt 1) _ _ _ (ms_up (c := 1) (d := 0) h56_1 hm6 (by decide) (iv_inc 1 h56_1 (by decide) (by decide) (by decide) (by decide)) (by decide) rfl) (h56_2) ((iv_w b1 (by decide) (by decide))) ((show x0 1 = x0 1 from rfl)) ((show x0 10 = x0 10 from rfl)) ((show x0 11 = x0 11 from rfl)) ((show x0 14 = x0 14 from rfl)) (hP) (hD) hS (lv_sub hl [2, 3, 4, 5, 6, 1, 0] rfl)
      have hJ51 : ∀ (H : Heap) (locs : List Loc) (ls : Array Slot), iv 0 31 v6_loc6 → (x0 1 = x0 1) → (x0 10 = x0 10) → (x0 11 = x0 11) → (x0 14 = x0 14) → va_P (dC, dI) vwCl [(m0, .inr (11, oX11 ra x0)), (ra 11, .inl (kI, 1019, .inl q_now))] H → va_D A [(m0, .inr (11, oX11 ra x0)), (ra 11, .inl (kI, 1019, .inl q_now))] → va_S A s.heap H locs → lv_has ls 7 [(0, .ref m0), (1, .int p0), (2, .int p1), (3, .int p2), (4, .int p3), (5, .int v6_loc5), (6, .int v6_loc6)] → W p l e (headSpec wsX11_isEdge rm_s11_isEdge).room s m args0 below meth c H locs (0) (0) (MQ below (va_Qi (fun (r : Int32) (_ : Unit) => iv 0 1 r) (fun _ t => va_P (dC, dI) vwCl [(m0, .inr (11, oX11 ra x0)), (ra 11, .inl (kI, 1019, .inl q_now))] t.heap ∧ va_D A [(m0, .inr (11, oX11 ra x0)), (ra 11, .inl (kI, 1019, .inl q_now))]) A) args0 s 0 0 A) (F0 m 51 ls []) := by
        intro H locs ls h51_1 htp_51 hfp_51 hor_51 hirl_51 hP hD hS hl
        refine lv_iconst (v := 1) hx hb dX11_isEdge_51 ic_1 ?_
        refine lv_goto (tgt := 56) hx hb dX11_isEdge_52 rfl ?_
        exact hJ56 1 _ _ _ (h51_1) ((iv_w ivk_1 (by decide) (by decide))) ((show x0 1 = x0 1 from rfl)) ((show x0 10 = x0 10 from rfl)) ((show x0 11 = x0 11 from rfl)) ((show x0 14 = x0 14 from rfl)) (hP) (hD) hS (lv_sub hl [0, 1, 2, 3, 4, 5, 6] rfl)
      have hJ55 : ∀ (H : Heap) (locs : List Loc) (ls : Array Slot), iv 0 0 v6_loc5 → iv 0 31 v6_loc6 → (x0 1 = x0 1) → (x0 10 = x0 10) → (x0 11 = x0 11) → (x0 14 = x0 14) → va_P (dC, dI) vwCl [(m0, .inr (11, oX11 ra x0)), (ra 11, .inl (kI, 1019, .inl q_now))] H → va_D A [(m0, .inr (11, oX11 ra x0)), (ra 11, .inl (kI, 1019, .inl q_now))] → va_S A s.heap H locs → lv_has ls 7 [(0, .ref m0), (1, .int p0), (2, .int p1), (3, .int p2), (4, .int p3), (5, .int v6_loc5), (6, .int v6_loc6)] → W p l e (headSpec wsX11_isEdge rm_s11_isEdge).room s m args0 below meth c H locs (0) (0) (MQ below (va_Qi (fun (r : Int32) (_ : Unit) => iv 0 1 r) (fun _ t => va_P (dC, dI) vwCl [(m0, .inr (11, oX11 ra x0)), (ra 11, .inl (kI, 1019, .inl q_now))] t.heap ∧ va_D A [(m0, .inr (11, oX11 ra x0)), (ra 11, .inl (kI, 1019, .inl q_now))]) A) args0 s 0 0 A) (F0 m 55 ls []) := by
        intro H locs ls h55_1 h55_2 htp_55 hfp_55 hor_55 hirl_55 hP hD hS hl
        refine lv_iconst (v := 0) hx hb dX11_isEdge_55 ic_0 ?_
        exact hJ56 0 _ _ _ (h55_2) ((iv_w ivk_0 (by decide) (by decide))) ((show x0 1 = x0 1 from rfl)) ((show x0 10 = x0 10 from rfl)) ((show x0 11 = x0 11 from rfl)) ((show x0 14 = x0 14 from rfl)) (hP) (hD) hS (lv_sub hl [0, 1, 2, 3, 4, 5, 6] rfl)
      refine lv_iload hx hb dX11_isEdge_6 (lv_at hl 6 rfl) ?_
      refine lv_bipush (v := 32) hx hb dX11_isEdge_8 bp_32 ?_
      refine lv_icmp_ge (tgt := 64) hx hb dX11_isEdge_10 rfl (fun c2 => ?_) (fun c2 => ?_)
      · have b3 : iv 32 32 v6_loc6 := iv_leR c2 ivk_32 h6_2 (by decide) (by decide)
        exact hJ64 v6_loc5 v6_loc6 _ _ _ (h6_1) ((iv_w b3 (by decide) (by decide))) ((show x0 1 = x0 1 from rfl)) ((show x0 10 = x0 10 from rfl)) ((show x0 11 = x0 11 from rfl)) ((show x0 14 = x0 14 from rfl)) (hP) (hD) hS (lv_sub hl [0, 1, 2, 3, 4, 5, 6] rfl)
      · have b4 : iv 0 31 v6_loc6 := iv_ltL (Int32.not_le.mp c2) h6_2 ivk_32 (by decide) (by decide)
        refine lv_iload_n hx hb dX11_isEdge_13 rfl (lv_at hl 3 rfl) ?_
        refine lv_iload hx hb dX11_isEdge_14 (lv_at hl 4 rfl) ?_
        refine lv_icmp_eq (tgt := 64) hx hb dX11_isEdge_16 rfl (fun c5 => ?_) (fun c5 => ?_)
        · exact hJ64 v6_loc5 v6_loc6 _ _ _ (h6_1) ((iv_w b4 (by decide) (by decide))) ((show x0 1 = x0 1 from rfl)) ((show x0 10 = x0 10 from rfl)) ((show x0 11 = x0 11 from rfl)) ((show x0 14 = x0 14 from rfl)) (hP) (hD) hS (lv_sub hl [0, 1, 2, 3, 4, 5, 6] rfl)
        · refine lv_iload hx hb dX11_isEdge_19 (lv_at hl 5 rfl) ?_
          refine lv_if_ne (tgt := 51) hx hb dX11_isEdge_21 rfl (fun c6 => ?_) (fun c6 => ?_)
          · have b7 : iv 1 1 v6_loc5 := iv_neLo c6 h6_1 ivk_0 (by decide) (by decide)
            exact hJ51 _ _ _ (b4) ((show x0 1 = x0 1 from rfl)) ((show x0 10 = x0 10 from rfl)) ((show x0 11 = x0 11 from rfl)) ((show x0 14 = x0 14 from rfl)) (hP) (hD) hS (lv_sub hl [0, 1, 2, 3, 4, 5, 6] rfl)
          · have b8 : iv 0 0 v6_loc5 := iv_eqL c6 ivk_0
            refine lv_aload_n hx hb dX11_isEdge_24 rfl (lv_at hl 0 rfl) ?_
            refine lv_iload hx hb dX11_isEdge_25 (lv_at hl 6 rfl) ?_
            refine lv_iload_n hx hb dX11_isEdge_27 rfl (lv_at hl 1 rfl) ?_
            refine lv_iload_n hx hb dX11_isEdge_28 rfl (lv_at hl 2 rfl) ?_
            obtain ⟨hPc, hDc, hFc, hJn⟩ := cl_a (wc := [(m0, .inr (11, oX11 ra x0)), (ra 11, .inl (kI, 1019, .inl q_now))]) (wr := []) hP hD hS hA [0, 1] [] rfl rfl (by decide +kernel)
            refine va_calli (va_runV (As := [.int v6_loc6, .int p0, .int p1]) (rest := []) ⟨hx, hb, hml, hown, hts⟩ (s11_seenBy0 l dC dI kB kI kJ kZ kC kS H.size m0 ra x0 q_now v6_loc6 p0 p1 (hX) (hq_now) (b4) (hp0) ((iv_w hp1 (by decide) (by decide)))) (cwV 3 hts gX11_isEdge_X11_seenBy rfl rfl rfl (by decide +kernel) ⟨Nat.le_of_ble_eq_true rfl, Nat.le_of_ble_eq_true rfl⟩) ⟨fun a U g mk q => by obtain ⟨q0, q1, qP, qE, qD⟩ := q; exact ⟨q0, q1, qP, kE_call qE, qD⟩, va_recv hK hP (ci := 11) (q0 := 0) rfl rfl, fun U hU hW => ⟨rfl, by rw [hU], by rw [hU]; exact hPc, kE_warm hW hE, hDc.weaken (fun _ _ _ _ => trivial)⟩⟩ rfl rfl hl.1 rfl (lv_room (Nat.le_of_ble_eq_true rfl)) dX11_isEdge_29 ⟨Nat.le_of_ble_eq_true rfl, Nat.le_of_ble_eq_true rfl⟩) hS (fun q _ h => hFc q h) hFc (fun r9 u t H locs ht hvm w10 hB hz1 hk1 hS => ?_)
            obtain ⟨hP1, hD1⟩ := hB
            try dsimp only at w10
            obtain ⟨hPa, hDa⟩ := hJn (w1 := [(m0, .inr (11, oX11 ra x0)), (ra 11, .inl (kI, 1019, .inl q_now))]) hk1 ht hP1 hD1
            clear hP hD hPc hDc hFc hJn hP1 hD1 hk1
            have hP : va_P (dC, dI) vwCl [(m0, .inr (11, oX11 ra x0)), (ra 11, .inl (kI, 1019, .inl q_now))] H := hPa
            have hD : va_D A [(m0, .inr (11, oX11 ra x0)), (ra 11, .inl (kI, 1019, .inl q_now))] := hDa
            clear hPa hDa
            refine W.widen (k := 0) (n := 0) (Nat.le_of_ble_eq_true rfl) (Nat.le_of_ble_eq_true rfl) ?_
            refine lv_iload_n hx hb dX11_isEdge_32 rfl (lv_at hl 3 rfl) ?_
            refine lv_icmp_ne (tgt := 55) hx hb dX11_isEdge_33 rfl (fun c11 => ?_) (fun c11 => ?_)
            · exact hJ55 _ _ _ (b8) (b4) ((show x0 1 = x0 1 from rfl)) ((show x0 10 = x0 10 from rfl)) ((show x0 11 = x0 11 from rfl)) ((show x0 14 = x0 14 from rfl)) (hP) (hD) hS (lv_sub hl [0, 1, 2, 3, 4, 5, 6] rfl)
            · refine lv_aload_n hx hb dX11_isEdge_36 rfl (lv_at hl 0 rfl) ?_
              refine lv_iload hx hb dX11_isEdge_37 (lv_at hl 6 rfl) ?_
              refine lv_iload_n hx hb dX11_isEdge_39 rfl (lv_at hl 1 rfl) ?_
              refine lv_iload_n hx hb dX11_isEdge_40 rfl (lv_at hl 2 rfl) ?_
              refine lv_iconst (v := 1) hx hb dX11_isEdge_41 ic_1 ?_
              refine lv_iadd hx hb dX11_isEdge_42 ?_
              refine iv_top (a := 1) (b := 10) (iv_add hp1 ivk_1 (by decide) (by decide) (by decide) (by decide)) (fun z12 b13 => ?_)
              obtain ⟨hPc, hDc, hFc, hJn⟩ := cl_a (wc := [(m0, .inr (11, oX11 ra x0)), (ra 11, .inl (kI, 1019, .inl q_now))]) (wr := []) hP hD hS hA [0, 1] [] rfl rfl (by decide +kernel)
              refine va_calli (va_runV (As := [.int v6_loc6, .int p0, .int z12]) (rest := []) ⟨hx, hb, hml, hown, hts⟩ (s11_seenBy l dC dI kB kI kJ kZ kC kS H.size m0 ra x0 q_now v6_loc6 p0 z12 (hX) (hq_now) (b4) (hp0) (b13)) (cwV 3 hts gX11_isEdge_X11_seenBy rfl rfl rfl (by decide +kernel) ⟨Nat.le_of_ble_eq_true rfl, Nat.le_of_ble_eq_true rfl⟩) ⟨fun a U g mk q => by obtain ⟨q0, q1, qP, qE, qD⟩ := q; exact ⟨q0, q1, qP, kE_call qE, qD⟩, va_recv hK hP (ci := 11) (q0 := 0) rfl rfl, fun U hU hW => ⟨rfl, by rw [hU], by rw [hU]; exact hPc, kE_warm hW hE, hDc.weaken (fun _ _ _ _ => trivial)⟩⟩ rfl rfl hl.1 rfl (lv_room (Nat.le_of_ble_eq_true rfl)) dX11_isEdge_43 ⟨Nat.le_of_ble_eq_true rfl, Nat.le_of_ble_eq_true rfl⟩) hS (fun q _ h => hFc q h) hFc (fun r14 u t H locs ht hvm w15 hB hz1 hk1 hS => ?_)
              obtain ⟨hP1, hD1⟩ := hB
              try dsimp only at w15
              obtain ⟨hPa, hDa⟩ := hJn (w1 := [(m0, .inr (11, oX11 ra x0)), (ra 11, .inl (kI, 1019, .inl q_now))]) hk1 ht hP1 hD1
              clear hP hD hPc hDc hFc hJn hP1 hD1 hk1
              have hP : va_P (dC, dI) vwCl [(m0, .inr (11, oX11 ra x0)), (ra 11, .inl (kI, 1019, .inl q_now))] H := hPa
              have hD : va_D A [(m0, .inr (11, oX11 ra x0)), (ra 11, .inl (kI, 1019, .inl q_now))] := hDa
              clear hPa hDa
              refine W.widen (k := 0) (n := 0) (Nat.le_of_ble_eq_true rfl) (Nat.le_of_ble_eq_true rfl) ?_
              obtain ⟨w15, b16⟩ := w15
              subst w15
              refine lv_iload hx hb dX11_isEdge_46 (lv_at hl 4 rfl) ?_
              refine lv_icmp_ne (tgt := 55) hx hb dX11_isEdge_48 rfl (fun c17 => ?_) (fun c17 => ?_)
              · exact hJ55 _ _ _ (b8) (b4) ((show x0 1 = x0 1 from rfl)) ((show x0 10 = x0 10 from rfl)) ((show x0 11 = x0 11 from rfl)) ((show x0 14 = x0 14 from rfl)) (hP) (hD) hS (lv_sub hl [0, 1, 2, 3, 4, 5, 6] rfl)
              · have b18 : iv (-1) 20 p3 := iv_eqR c17 b16
                exact hJ51 _ _ _ (b4) ((show x0 1 = x0 1 from rfl)) ((show x0 10 = x0 10 from rfl)) ((show x0 11 = x0 11 from rfl)) ((show x0 14 = x0 14 from rfl)) (hP) (hD) hS (lv_sub hl [0, 1, 2, 3, 4, 5, 6] rfl)
  refine lv_iconst (v := 0) hx hb dX11_isEdge_0 ic_0 ?_
  refine lv_istore (lv' := [(5, .int 0), (0, .ref m0), (1, .int p0), (2, .int p1), (3, .int p2), (4, .int p3)]) hx hb dX11_isEdge_1 hl (Nat.le_of_ble_eq_true rfl) rfl (fun ls hl => ?_)
  refine lv_iconst (v := 0) hx hb dX11_isEdge_3 ic_0 ?_
  refine lv_istore (lv' := [(6, .int 0), (5, .int 0), (0, .ref m0), (1, .int p0), (2, .int p1), (3, .int p2), (4, .int p3)]) hx hb dX11_isEdge_4 hl (Nat.le_of_ble_eq_true rfl) rfl (fun ls hl => ?_)
  exact hJ6 _ 0 0 _ _ _ (Nat.lt_succ_self _) ((iv_w ivk_0 (by decide) (by decide))) ((iv_w ivk_0 (by decide) (by decide))) ((show x0 1 = x0 1 from rfl)) ((show x0 10 = x0 10 from rfl)) ((show x0 11 = x0 11 from rfl)) ((show x0 14 = x0 14 from rfl)) (hP) (hD) hS (lv_sub hl [2, 3, 4, 5, 6, 1, 0] rfl)
def rm_s11_edgesFrom : Room := { frames := 3, cells := 0, slots := 0, locals := 71 }
set_option maxHeartbeats 4000000 in
set_option maxRecDepth 100000 in
theorem s11_edgesFrom (l : Launch) (dC : Nat → ClassId) (dI : Nat → Nat → Nat) (kB kI kJ kZ kC kS : ClassId) (sz : Nat) (m0 : Nat) (ra : Nat → Nat) (x0 : Nat → Int32) (q_told : Nat → Int32) (q_now : Nat → Int32) (p0 : Int32) (p1 : Int32) (p2 : Int32) (hX : fI lX11 hX11 x0) (hq_told : fI lTold hTold q_told) (hq_now : fI lNow hNow q_now) (hp0 : iv 0 2 p0) (hp1 : iv 0 9 p1) : Met l yX11_edgesFrom wsX11_edgesFrom rm_s11_edgesFrom (va_Pc [.ref m0, .int p0, .int p1, .int p2] (fun U => U.heap.size = sz ∧ va_P (dC, dI) vwCl [(m0, .inr (11, oX11 ra x0)), (ra 2, .inl (kI, 8, .inl q_told)), (ra 11, .inl (kI, 1019, .inl q_now))] U.heap ∧ kE dC dI kB kI kJ kZ kC kS U ∧ va_D (fun _ => True) [(m0, .inr (11, oX11 ra x0)), (ra 2, .inl (kI, 8, .inl q_told)), (ra 11, .inl (kI, 1019, .inl q_now))])) (va_Qi (fun (r : Int32) (_ : Unit) => True) (fun _ t => va_P (dC, dI) vwCl [(m0, .inr (11, oX11 ra x0)), (ra 2, .inl (kI, 8, .inl q_told)), (ra 11, .inl (kI, 1019, .inl q_now))] t.heap ∧ va_D (va_A [(m0, .inr (11, oX11 ra x0)), (ra 2, .inl (kI, 8, .inl q_told)), (ra 11, .inl (kI, 1019, .inl q_now))] sz) [(m0, .inr (11, oX11 ra x0)), (ra 2, .inl (kI, 8, .inl q_told)), (ra 11, .inl (kI, 1019, .inl q_now))]) (va_A [(m0, .inr (11, oX11 ra x0)), (ra 2, .inl (kI, 8, .inl q_told)), (ra 11, .inl (kI, 1019, .inl q_now))] sz)) 0 0 (va_A [(m0, .inr (11, oX11 ra x0)), (ra 2, .inl (kI, 8, .inl q_told)), (ra 11, .inl (kI, 1019, .inl q_now))] sz) := by
  refine Met.ofW (cc := cX11_edgesFrom) (maxL := 6) (ret := (some .int)) (by decide) rfl ?_
  intro p e s m args0 below meth c s₁ B hml hv
  obtain ⟨hargs, hsz, hP, hE, hD0⟩ := hv
  have hx := B.exec
  have hb := B.bytes
  have hr := B.returns
  have hts := atoms_spec (ws := wsX11_edgesFrom) B.pre
  have hown : s.vm.findClass RX11 = some m.cls := findClass_of_methodNamed B.named
  have hlocks := B.notSynchronized
  have hK := hE.1
  have hin11 : ∀ w ∈ wsX110, w ∈ wsX11_edgesFrom := fun _ h9 => List.mem_cons_of_mem _ (List.mem_append_right _ h9)
  subst hsz
  have hD := hD0.self (sz := s.heap.size)
  generalize hAe : va_A [(m0, .inr (11, oX11 ra x0)), (ra 2, .inl (kI, 8, .inl q_told)), (ra 11, .inl (kI, 1019, .inl q_now))] s.heap.size = A at hD ⊢
  have hA : ∀ q : Nat, s.heap.size ≤ q → A q := fun q h => by rw [← hAe]; exact Or.inr h
  have hS : va_S A s.heap s.heap [] := va_S.rf
  have hP : va_P (dC, dI) vwCl [(m0, .inr (11, oX11 ra x0)), (ra 2, .inl (kI, 8, .inl q_told)), (ra 11, .inl (kI, 1019, .inl q_now))] s.heap := hP
  have hl := lv_entry ([.ref m0, .int p0, .int p1, .int p2]) (n := 6) (Nat.le_of_ble_eq_true rfl)
  have hla : entryFrame m args0 6 = entryFrame m ([.ref m0, .int p0, .int p1, .int p2] : List Value).toArray 6 := by rw [hargs]
  rw [hla, lg_entry_eq]
  generalize (lg_sl ([.ref m0, .int p0, .int p1, .int p2]) ++ List.replicate (6 - (lg_sl ([.ref m0, .int p0, .int p1, .int p2])).length) Slot.unset).toArray = ls at hl ⊢
  have hl : lv_has ls 6 [(0, .ref m0), (1, .int p0), (2, .int p1), (3, .int p2)] := hl
  have hJ6 : ∀ (n : Nat) (v6_loc4 : Int32) (v6_loc5 : Int32) (H : Heap) (locs : List Loc) (ls : Array Slot), (2147483647 - v6_loc5.toInt).toNat < n → iv 0 2147483647 v6_loc5 → (x0 1 = x0 1) → (x0 10 = x0 10) → (x0 11 = x0 11) → (x0 14 = x0 14) → va_P (dC, dI) vwCl [(m0, .inr (11, oX11 ra x0)), (ra 2, .inl (kI, 8, .inl q_told)), (ra 11, .inl (kI, 1019, .inl q_now))] H → va_D A [(m0, .inr (11, oX11 ra x0)), (ra 2, .inl (kI, 8, .inl q_told)), (ra 11, .inl (kI, 1019, .inl q_now))] → va_S A s.heap H locs → lv_has ls 6 [(0, .ref m0), (1, .int p0), (2, .int p1), (3, .int p2), (4, .int v6_loc4), (5, .int v6_loc5)] → W p l e (headSpec wsX11_edgesFrom rm_s11_edgesFrom).room s m args0 below meth c H locs (0) (0) (MQ below (va_Qi (fun (r : Int32) (_ : Unit) => True) (fun _ t => va_P (dC, dI) vwCl [(m0, .inr (11, oX11 ra x0)), (ra 2, .inl (kI, 8, .inl q_told)), (ra 11, .inl (kI, 1019, .inl q_now))] t.heap ∧ va_D A [(m0, .inr (11, oX11 ra x0)), (ra 2, .inl (kI, 8, .inl q_told)), (ra 11, .inl (kI, 1019, .inl q_now))]) A) args0 s 0 0 A) (F0 m 6 ls []) := by
    intro n
    induction n with
    | zero => intro v6_loc4 v6_loc5 H locs ls hm6; exact absurd hm6 (Nat.not_lt_zero _)
    | succ n ih6 =>
      intro v6_loc4 v6_loc5 H locs ls hm6 h6_1 htp_6 hfp_6 hor_6 hirl_6 hP hD hS hl
      have hJ34 : ∀ (v34_stk0 : Int32) (H : Heap) (locs : List Loc) (ls : Array Slot), iv 0 20 v6_loc5 → iv 0 1 v34_stk0 → (x0 1 = x0 1) → (x0 10 = x0 10) → (x0 11 = x0 11) → (x0 14 = x0 14) → va_P (dC, dI) vwCl [(m0, .inr (11, oX11 ra x0)), (ra 2, .inl (kI, 8, .inl q_told)), (ra 11, .inl (kI, 1019, .inl q_now))] H → va_D A [(m0, .inr (11, oX11 ra x0)), (ra 2, .inl (kI, 8, .inl q_told)), (ra 11, .inl (kI, 1019, .inl q_now))] → va_S A s.heap H locs → lv_has ls 6 [(0, .ref m0), (1, .int p0), (2, .int p1), (3, .int p2), (4, .int v6_loc4), (5, .int v6_loc5)] → W p l e (headSpec wsX11_edgesFrom rm_s11_edgesFrom).room s m args0 below meth c H locs (0) (0) (MQ below (va_Qi (fun (r : Int32) (_ : Unit) => True) (fun _ t => va_P (dC, dI) vwCl [(m0, .inr (11, oX11 ra x0)), (ra 2, .inl (kI, 8, .inl q_told)), (ra 11, .inl (kI, 1019, .inl q_now))] t.heap ∧ va_D A [(m0, .inr (11, oX11 ra x0)), (ra 2, .inl (kI, 8, .inl q_told)), (ra 11, .inl (kI, 1019, .inl q_now))]) A) args0 s 0 0 A) (F0 m 34 ls [.int v34_stk0, .int v6_loc4]) := by
        intro v34_stk0 H locs ls h34_1 h34_2 htp_34 hfp_34 hor_34 hirl_34 hP hD hS hl
        refine lv_iadd hx hb dX11_edgesFrom_34 ?_
        refine lv_topi (fun z1 _ => ?_)
        refine lv_istore (lv' := [(4, .int z1), (0, .ref m0), (1, .int p0), (2, .int p1), (3, .int p2), (5, .int v6_loc5)]) hx hb dX11_edgesFrom_35 hl (Nat.le_of_ble_eq_true rfl) rfl (fun ls hl => ?_)
        refine lv_iinc (v := v6_loc5 + Int32.ofInt 1) (lv' := [(5, .int (v6_loc5 + Int32.ofInt 1)), (4, .int z1), (0, .ref m0), (1, .int p0), (2, .int p1), (3, .int p2)]) hx hb dX11_edgesFrom_37 hl (k := 5) rfl (rfl) (Nat.le_of_ble_eq_true rfl) rfl (fun ls hl => ?_)
        have b2 : iv 1 21 (v6_loc5 + Int32.ofInt 1) := iv_add h34_1 ivo_1 (by decide) (by decide) (by decide) (by decide)
        refine lv_goto (tgt := 6) hx hb dX11_edgesFrom_40 rfl ?_
        exact ih6 z1 (v6_loc5 + Int32.ofInt 1) _ _ _ (ms_up (c := 1) (d := 0) h34_1 hm6 (by decide) (iv_inc 1 h34_1 (by decide) (by decide) (by decide) (by decide)) (by decide) rfl) ((iv_w b2 (by decide) (by decide))) ((show x0 1 = x0 1 from rfl)) ((show x0 10 = x0 10 from rfl)) ((show x0 11 = x0 11 from rfl)) ((show x0 14 = x0 14 from rfl)) (hP) (hD) hS (lv_sub hl [2, 3, 4, 5, 1, 0] rfl)
      refine lv_iload hx hb dX11_edgesFrom_6 (lv_at hl 5 rfl) ?_
      refine lv_aload_n hx hb dX11_edgesFrom_8 rfl (lv_at hl 0 rfl) ?_
      obtain ⟨hPc, hDc, hFc, hJn⟩ := cl_a (wc := [(m0, .inr (11, oX11 ra x0)), (ra 2, .inl (kI, 8, .inl q_told))]) (wr := [(ra 11, .inl (kI, 1019, .inl q_now))]) hP hD hS hA [0, 1] [2] rfl rfl (by decide +kernel)
      refine va_calli (va_runV (As := []) (rest := [.int v6_loc5]) ⟨hx, hb, hml, hown, hts⟩ (s11_links l dC dI kB kI kJ kZ kC kS H.size m0 ra x0 q_told (hX) (hq_told)) (cwV 0 hts gX11_edgesFrom_X11_links rfl rfl rfl (by decide +kernel) ⟨Nat.le_of_ble_eq_true rfl, Nat.le_of_ble_eq_true rfl⟩) ⟨fun a U g mk q => by obtain ⟨q0, q1, qP, qE, qD⟩ := q; exact ⟨q0, q1, qP, kE_call qE, qD⟩, va_recv hK hP (ci := 11) (q0 := 0) rfl rfl, fun U hU hW => ⟨rfl, by rw [hU], by rw [hU]; exact hPc, kE_warm hW hE, hDc.weaken (fun _ _ _ _ => trivial)⟩⟩ rfl rfl hl.1 rfl (lv_room (Nat.le_of_ble_eq_true rfl)) dX11_edgesFrom_9 ⟨Nat.le_of_ble_eq_true rfl, Nat.le_of_ble_eq_true rfl⟩) hS (fun q _ h => hFc q h) hFc (fun r3 u t H locs ht hvm w4 hB hz1 hk1 hS => ?_)
      obtain ⟨hP1, hD1⟩ := hB
      try dsimp only at w4
      obtain ⟨hPa, hDa⟩ := hJn (w1 := [(m0, .inr (11, oX11 ra x0)), (ra 2, .inl (kI, 8, .inl q_told))]) hk1 ht hP1 hD1
      clear hP hD hPc hDc hFc hJn hP1 hD1 hk1
      have hP : va_P (dC, dI) vwCl [(ra 11, .inl (kI, 1019, .inl q_now)), (m0, .inr (11, oX11 ra x0)), (ra 2, .inl (kI, 8, .inl q_told))] H := hPa
      have hD : va_D A [(ra 11, .inl (kI, 1019, .inl q_now)), (m0, .inr (11, oX11 ra x0)), (ra 2, .inl (kI, 8, .inl q_told))] := hDa
      clear hPa hDa
      refine W.widen (k := 0) (n := 0) (Nat.le_of_ble_eq_true rfl) (Nat.le_of_ble_eq_true rfl) ?_
      subst w4
      refine lv_icmp_gt (tgt := 43) hx hb dX11_edgesFrom_12 rfl (fun c5 => ?_) (fun c5 => ?_)
      · have b6 : iv 1 2147483647 v6_loc5 := iv_ltR c5 (hq_told 1 : iv 0 20 (q_told 1)) h6_1 (by decide) (by decide)
        refine lv_iload hx hb dX11_edgesFrom_43 (lv_at hl 4 rfl) ?_
        have hPD9 := cl_s (wc := [(m0, .inr (11, oX11 ra x0)), (ra 2, .inl (kI, 8, .inl q_told)), (ra 11, .inl (kI, 1019, .inl q_now))]) hP hD [1, 2, 0] rfl (by decide +kernel)
        have hP9 := hPD9.1
        have hD9 := hPD9.2
        exact W.iret (v := v6_loc4) hx hb hr (fun t ht hW => ⟨⟨v6_loc4, (), rfl, trivial, by rw [ht]; exact hP9, hD9⟩, hS.F ht⟩) hS.2.2 dX11_edgesFrom_45
      · have b7 : iv 0 20 v6_loc5 := iv_leL (Int32.not_lt.mp c5) h6_1 (hq_told 1 : iv 0 20 (q_told 1)) (by decide) (by decide)
        refine lv_iload hx hb dX11_edgesFrom_15 (lv_at hl 4 rfl) ?_
        refine lv_aload_n hx hb dX11_edgesFrom_17 rfl (lv_at hl 0 rfl) ?_
        refine lv_iload_n hx hb dX11_edgesFrom_18 rfl (lv_at hl 1 rfl) ?_
        refine lv_iload_n hx hb dX11_edgesFrom_19 rfl (lv_at hl 2 rfl) ?_
        refine lv_iload_n hx hb dX11_edgesFrom_20 rfl (lv_at hl 3 rfl) ?_
        refine lv_iload hx hb dX11_edgesFrom_21 (lv_at hl 5 rfl) ?_
        obtain ⟨hPc, hDc, hFc, hJn⟩ := cl_a (wc := [(m0, .inr (11, oX11 ra x0)), (ra 11, .inl (kI, 1019, .inl q_now))]) (wr := [(ra 2, .inl (kI, 8, .inl q_told))]) hP hD hS hA [1, 0] [2] rfl rfl (by decide +kernel)
        refine va_calli (va_runV (As := [.int p0, .int p1, .int p2, .int v6_loc5]) (rest := [.int v6_loc4]) ⟨hx, hb, hml, hown, hts⟩ (s11_isEdge l dC dI kB kI kJ kZ kC kS H.size m0 ra x0 q_now p0 p1 p2 v6_loc5 (hX) (hq_now) (hp0) (hp1)) (cwV 4 hts gX11_edgesFrom_X11_isEdge rfl rfl rfl (by decide +kernel) ⟨Nat.le_of_ble_eq_true rfl, Nat.le_of_ble_eq_true rfl⟩) ⟨fun a U g mk q => by obtain ⟨q0, q1, qP, qE, qD⟩ := q; exact ⟨q0, q1, qP, kE_call qE, qD⟩, va_recv hK hP (ci := 11) (q0 := 1) rfl rfl, fun U hU hW => ⟨rfl, by rw [hU], by rw [hU]; exact hPc, kE_warm hW hE, hDc.weaken (fun _ _ _ _ => trivial)⟩⟩ rfl rfl hl.1 rfl (lv_room (Nat.le_of_ble_eq_true rfl)) dX11_edgesFrom_23 ⟨Nat.le_of_ble_eq_true rfl, Nat.le_of_ble_eq_true rfl⟩) hS (fun q _ h => hFc q h) hFc (fun r8 u t H locs ht hvm w9 hB hz1 hk1 hS => ?_)
        obtain ⟨hP1, hD1⟩ := hB
        try dsimp only at w9
        obtain ⟨hPa, hDa⟩ := hJn (w1 := [(m0, .inr (11, oX11 ra x0)), (ra 11, .inl (kI, 1019, .inl q_now))]) hk1 ht hP1 hD1
        clear hP hD hPc hDc hFc hJn hP1 hD1 hk1
        have hP : va_P (dC, dI) vwCl [(ra 2, .inl (kI, 8, .inl q_told)), (m0, .inr (11, oX11 ra x0)), (ra 11, .inl (kI, 1019, .inl q_now))] H := hPa
        have hD : va_D A [(ra 2, .inl (kI, 8, .inl q_told)), (m0, .inr (11, oX11 ra x0)), (ra 11, .inl (kI, 1019, .inl q_now))] := hDa
        clear hPa hDa
        refine W.widen (k := 0) (n := 0) (Nat.le_of_ble_eq_true rfl) (Nat.le_of_ble_eq_true rfl) ?_
        refine lv_if_eq (tgt := 33) hx hb dX11_edgesFrom_26 rfl (fun c10 => ?_) (fun c10 => ?_)
        · have b11 : iv 0 0 r8 := iv_eqL c10 ivk_0
          refine lv_iconst (v := 0) hx hb dX11_edgesFrom_33 ic_0 ?_
          have hPD9 := cl_s (wc := [(m0, .inr (11, oX11 ra x0)), (ra 2, .inl (kI, 8, .inl q_told)), (ra 11, .inl (kI, 1019, .inl q_now))]) hP hD [1, 0, 2] rfl (by decide +kernel)
          exact hJ34 0 _ _ _ (b7) ((iv_w ivk_0 (by decide) (by decide))) ((show x0 1 = x0 1 from rfl)) ((show x0 10 = x0 10 from rfl)) ((show x0 11 = x0 11 from rfl)) ((show x0 14 = x0 14 from rfl)) (hPD9.1) (hPD9.2) hS (lv_sub hl [0, 1, 2, 3, 4, 5] rfl)
        · have b12 : iv 1 1 r8 := iv_neLo c10 w9 ivk_0 (by decide) (by decide)
          refine lv_iconst (v := 1) hx hb dX11_edgesFrom_29 ic_1 ?_
          refine lv_goto (tgt := 34) hx hb dX11_edgesFrom_30 rfl ?_
          have hPD9 := cl_s (wc := [(m0, .inr (11, oX11 ra x0)), (ra 2, .inl (kI, 8, .inl q_told)), (ra 11, .inl (kI, 1019, .inl q_now))]) hP hD [1, 0, 2] rfl (by decide +kernel)
          exact hJ34 1 _ _ _ (b7) ((iv_w ivk_1 (by decide) (by decide))) ((show x0 1 = x0 1 from rfl)) ((show x0 10 = x0 10 from rfl)) ((show x0 11 = x0 11 from rfl)) ((show x0 14 = x0 14 from rfl)) (hPD9.1) (hPD9.2) hS (lv_sub hl [0, 1, 2, 3, 4, 5] rfl)
  refine lv_iconst (v := 0) hx hb dX11_edgesFrom_0 ic_0 ?_
  refine lv_istore (lv' := [(4, .int 0), (0, .ref m0), (1, .int p0), (2, .int p1), (3, .int p2)]) hx hb dX11_edgesFrom_1 hl (Nat.le_of_ble_eq_true rfl) rfl (fun ls hl => ?_)
  refine lv_iconst (v := 0) hx hb dX11_edgesFrom_3 ic_0 ?_
  refine lv_istore (lv' := [(5, .int 0), (4, .int 0), (0, .ref m0), (1, .int p0), (2, .int p1), (3, .int p2)]) hx hb dX11_edgesFrom_4 hl (Nat.le_of_ble_eq_true rfl) rfl (fun ls hl => ?_)
  exact hJ6 _ 0 0 _ _ _ (Nat.lt_succ_self _) ((iv_w ivk_0 (by decide) (by decide))) ((show x0 1 = x0 1 from rfl)) ((show x0 10 = x0 10 from rfl)) ((show x0 11 = x0 11 from rfl)) ((show x0 14 = x0 14 from rfl)) (hP) (hD) hS (lv_sub hl [2, 3, 4, 5, 1, 0] rfl)
def rm_s11_edgesAt : Room := { frames := 4, cells := 0, slots := 0, locals := 96 }
set_option maxHeartbeats 4000000 in
set_option maxRecDepth 100000 in
theorem s11_edgesAt (l : Launch) (dC : Nat → ClassId) (dI : Nat → Nat → Nat) (kB kI kJ kZ kC kS : ClassId) (sz : Nat) (m0 : Nat) (ra : Nat → Nat) (x0 : Nat → Int32) (q_told : Nat → Int32) (q_now : Nat → Int32) (p0 : Int32) (p1 : Int32) (hX : fI lX11 hX11 x0) (hq_told : fI lTold hTold q_told) (hq_now : fI lNow hNow q_now) (hp0 : iv 0 2 p0) (hp1 : iv 1 10 p1) : Met l yX11_edgesAt wsX11_edgesAt rm_s11_edgesAt (va_Pc [.ref m0, .int p0, .int p1] (fun U => U.heap.size = sz ∧ va_P (dC, dI) vwCl [(m0, .inr (11, oX11 ra x0)), (ra 2, .inl (kI, 8, .inl q_told)), (ra 11, .inl (kI, 1019, .inl q_now))] U.heap ∧ kE dC dI kB kI kJ kZ kC kS U ∧ va_D (fun _ => True) [(m0, .inr (11, oX11 ra x0)), (ra 2, .inl (kI, 8, .inl q_told)), (ra 11, .inl (kI, 1019, .inl q_now))])) (va_Qi (fun (r : Int32) (_ : Unit) => True) (fun _ t => va_P (dC, dI) vwCl [(m0, .inr (11, oX11 ra x0)), (ra 2, .inl (kI, 8, .inl q_told)), (ra 11, .inl (kI, 1019, .inl q_now))] t.heap ∧ va_D (va_A [(m0, .inr (11, oX11 ra x0)), (ra 2, .inl (kI, 8, .inl q_told)), (ra 11, .inl (kI, 1019, .inl q_now))] sz) [(m0, .inr (11, oX11 ra x0)), (ra 2, .inl (kI, 8, .inl q_told)), (ra 11, .inl (kI, 1019, .inl q_now))]) (va_A [(m0, .inr (11, oX11 ra x0)), (ra 2, .inl (kI, 8, .inl q_told)), (ra 11, .inl (kI, 1019, .inl q_now))] sz)) 0 0 (va_A [(m0, .inr (11, oX11 ra x0)), (ra 2, .inl (kI, 8, .inl q_told)), (ra 11, .inl (kI, 1019, .inl q_now))] sz) := by
  refine Met.ofW (cc := cX11_edgesAt) (maxL := 5) (ret := (some .int)) (by decide) rfl ?_
  intro p e s m args0 below meth c s₁ B hml hv
  obtain ⟨hargs, hsz, hP, hE, hD0⟩ := hv
  have hx := B.exec
  have hb := B.bytes
  have hr := B.returns
  have hts := atoms_spec (ws := wsX11_edgesAt) B.pre
  have hown : s.vm.findClass RX11 = some m.cls := findClass_of_methodNamed B.named
  have hlocks := B.notSynchronized
  have hK := hE.1
  have hin11 : ∀ w ∈ wsX110, w ∈ wsX11_edgesAt := fun _ h9 => List.mem_cons_of_mem _ (List.mem_append_right _ h9)
  subst hsz
  have hD := hD0.self (sz := s.heap.size)
  generalize hAe : va_A [(m0, .inr (11, oX11 ra x0)), (ra 2, .inl (kI, 8, .inl q_told)), (ra 11, .inl (kI, 1019, .inl q_now))] s.heap.size = A at hD ⊢
  have hA : ∀ q : Nat, s.heap.size ≤ q → A q := fun q h => by rw [← hAe]; exact Or.inr h
  have hS : va_S A s.heap s.heap [] := va_S.rf
  have hP : va_P (dC, dI) vwCl [(m0, .inr (11, oX11 ra x0)), (ra 2, .inl (kI, 8, .inl q_told)), (ra 11, .inl (kI, 1019, .inl q_now))] s.heap := hP
  have hl := lv_entry ([.ref m0, .int p0, .int p1]) (n := 5) (Nat.le_of_ble_eq_true rfl)
  have hla : entryFrame m args0 5 = entryFrame m ([.ref m0, .int p0, .int p1] : List Value).toArray 5 := by rw [hargs]
  rw [hla, lg_entry_eq]
  generalize (lg_sl ([.ref m0, .int p0, .int p1]) ++ List.replicate (5 - (lg_sl ([.ref m0, .int p0, .int p1])).length) Slot.unset).toArray = ls at hl ⊢
  have hl : lv_has ls 5 [(0, .ref m0), (1, .int p0), (2, .int p1)] := hl
  have hJ37 : ∀ (v37_loc3 : Int32) (v37_loc4 : Int32) (H : Heap) (locs : List Loc) (ls : Array Slot), iv 0 2147483647 v37_loc4 → (x0 1 = x0 1) → (x0 10 = x0 10) → (x0 11 = x0 11) → (x0 14 = x0 14) → va_P (dC, dI) vwCl [(m0, .inr (11, oX11 ra x0)), (ra 2, .inl (kI, 8, .inl q_told)), (ra 11, .inl (kI, 1019, .inl q_now))] H → va_D A [(m0, .inr (11, oX11 ra x0)), (ra 2, .inl (kI, 8, .inl q_told)), (ra 11, .inl (kI, 1019, .inl q_now))] → va_S A s.heap H locs → lv_has ls 5 [(0, .ref m0), (1, .int p0), (2, .int p1), (3, .int v37_loc3), (4, .int v37_loc4)] → W p l e (headSpec wsX11_edgesAt rm_s11_edgesAt).room s m args0 below meth c H locs (0) (0) (MQ below (va_Qi (fun (r : Int32) (_ : Unit) => True) (fun _ t => va_P (dC, dI) vwCl [(m0, .inr (11, oX11 ra x0)), (ra 2, .inl (kI, 8, .inl q_told)), (ra 11, .inl (kI, 1019, .inl q_now))] t.heap ∧ va_D A [(m0, .inr (11, oX11 ra x0)), (ra 2, .inl (kI, 8, .inl q_told)), (ra 11, .inl (kI, 1019, .inl q_now))]) A) args0 s 0 0 A) (F0 m 37 ls []) := by
    intro v37_loc3 v37_loc4 H locs ls h37_1 htp_37 hfp_37 hor_37 hirl_37 hP hD hS hl
    refine lv_iload_n hx hb dX11_edgesAt_37 rfl (lv_at hl 3 rfl) ?_
    have hP9 := hP
    have hD9 := hD
    exact W.iret (v := v37_loc3) hx hb hr (fun t ht hW => ⟨⟨v37_loc3, (), rfl, trivial, by rw [ht]; exact hP9, hD9⟩, hS.F ht⟩) hS.2.2 dX11_edgesAt_38
  have hJ5 : ∀ (n : Nat) (v5_loc3 : Int32) (v5_loc4 : Int32) (H : Heap) (locs : List Loc) (ls : Array Slot), (2147483647 - v5_loc4.toInt).toNat < n → iv 0 2147483647 v5_loc4 → (x0 1 = x0 1) → (x0 10 = x0 10) → (x0 11 = x0 11) → (x0 14 = x0 14) → va_P (dC, dI) vwCl [(m0, .inr (11, oX11 ra x0)), (ra 2, .inl (kI, 8, .inl q_told)), (ra 11, .inl (kI, 1019, .inl q_now))] H → va_D A [(m0, .inr (11, oX11 ra x0)), (ra 2, .inl (kI, 8, .inl q_told)), (ra 11, .inl (kI, 1019, .inl q_now))] → va_S A s.heap H locs → lv_has ls 5 [(0, .ref m0), (1, .int p0), (2, .int p1), (3, .int v5_loc3), (4, .int v5_loc4)] → W p l e (headSpec wsX11_edgesAt rm_s11_edgesAt).room s m args0 below meth c H locs (0) (0) (MQ below (va_Qi (fun (r : Int32) (_ : Unit) => True) (fun _ t => va_P (dC, dI) vwCl [(m0, .inr (11, oX11 ra x0)), (ra 2, .inl (kI, 8, .inl q_told)), (ra 11, .inl (kI, 1019, .inl q_now))] t.heap ∧ va_D A [(m0, .inr (11, oX11 ra x0)), (ra 2, .inl (kI, 8, .inl q_told)), (ra 11, .inl (kI, 1019, .inl q_now))]) A) args0 s 0 0 A) (F0 m 5 ls []) := by
    intro n
    induction n with
    | zero => intro v5_loc3 v5_loc4 H locs ls hm5; exact absurd hm5 (Nat.not_lt_zero _)
    | succ n ih5 =>
      intro v5_loc3 v5_loc4 H locs ls hm5 h5_1 htp_5 hfp_5 hor_5 hirl_5 hP hD hS hl
      refine lv_iload hx hb dX11_edgesAt_5 (lv_at hl 4 rfl) ?_
      refine lv_aload_n hx hb dX11_edgesAt_7 rfl (lv_at hl 0 rfl) ?_
      obtain ⟨hPc, hDc, hFc, hJn⟩ := cl_a (wc := [(m0, .inr (11, oX11 ra x0)), (ra 2, .inl (kI, 8, .inl q_told))]) (wr := [(ra 11, .inl (kI, 1019, .inl q_now))]) hP hD hS hA [0, 1] [2] rfl rfl (by decide +kernel)
      refine va_calli (va_runV (As := []) (rest := [.int v5_loc4]) ⟨hx, hb, hml, hown, hts⟩ (s11_links l dC dI kB kI kJ kZ kC kS H.size m0 ra x0 q_told (hX) (hq_told)) (cwV 0 hts gX11_edgesAt_X11_links rfl rfl rfl (by decide +kernel) ⟨Nat.le_of_ble_eq_true rfl, Nat.le_of_ble_eq_true rfl⟩) ⟨fun a U g mk q => by obtain ⟨q0, q1, qP, qE, qD⟩ := q; exact ⟨q0, q1, qP, kE_call qE, qD⟩, va_recv hK hP (ci := 11) (q0 := 0) rfl rfl, fun U hU hW => ⟨rfl, by rw [hU], by rw [hU]; exact hPc, kE_warm hW hE, hDc.weaken (fun _ _ _ _ => trivial)⟩⟩ rfl rfl hl.1 rfl (lv_room (Nat.le_of_ble_eq_true rfl)) dX11_edgesAt_8 ⟨Nat.le_of_ble_eq_true rfl, Nat.le_of_ble_eq_true rfl⟩) hS (fun q _ h => hFc q h) hFc (fun r1 u t H locs ht hvm w2 hB hz1 hk1 hS => ?_)
      obtain ⟨hP1, hD1⟩ := hB
      try dsimp only at w2
      obtain ⟨hPa, hDa⟩ := hJn (w1 := [(m0, .inr (11, oX11 ra x0)), (ra 2, .inl (kI, 8, .inl q_told))]) hk1 ht hP1 hD1
      clear hP hD hPc hDc hFc hJn hP1 hD1 hk1
      have hP : va_P (dC, dI) vwCl [(ra 11, .inl (kI, 1019, .inl q_now)), (m0, .inr (11, oX11 ra x0)), (ra 2, .inl (kI, 8, .inl q_told))] H := hPa
      have hD : va_D A [(ra 11, .inl (kI, 1019, .inl q_now)), (m0, .inr (11, oX11 ra x0)), (ra 2, .inl (kI, 8, .inl q_told))] := hDa
      clear hPa hDa
      refine W.widen (k := 0) (n := 0) (Nat.le_of_ble_eq_true rfl) (Nat.le_of_ble_eq_true rfl) ?_
      subst w2
      refine lv_icmp_gt (tgt := 37) hx hb dX11_edgesAt_11 rfl (fun c3 => ?_) (fun c3 => ?_)
      · have b4 : iv 1 2147483647 v5_loc4 := iv_ltR c3 (hq_told 1 : iv 0 20 (q_told 1)) h5_1 (by decide) (by decide)
        have hPD9 := cl_s (wc := [(m0, .inr (11, oX11 ra x0)), (ra 2, .inl (kI, 8, .inl q_told)), (ra 11, .inl (kI, 1019, .inl q_now))]) hP hD [1, 2, 0] rfl (by decide +kernel)
        exact hJ37 v5_loc3 v5_loc4 _ _ _ ((iv_w b4 (by decide) (by decide))) ((show x0 1 = x0 1 from rfl)) ((show x0 10 = x0 10 from rfl)) ((show x0 11 = x0 11 from rfl)) ((show x0 14 = x0 14 from rfl)) (hPD9.1) (hPD9.2) hS (lv_sub hl [0, 1, 2, 3, 4] rfl)
      · have b5 : iv 0 20 v5_loc4 := iv_leL (Int32.not_lt.mp c3) h5_1 (hq_told 1 : iv 0 20 (q_told 1)) (by decide) (by decide)
        refine lv_iload_n hx hb dX11_edgesAt_14 rfl (lv_at hl 2 rfl) ?_
        refine lv_bipush (v := 10) hx hb dX11_edgesAt_15 bp_10 ?_
        refine lv_icmp_ge (tgt := 37) hx hb dX11_edgesAt_17 rfl (fun c6 => ?_) (fun c6 => ?_)
        · have b7 : iv 10 10 p1 := iv_leR c6 ivk_10 hp1 (by decide) (by decide)
          have hPD9 := cl_s (wc := [(m0, .inr (11, oX11 ra x0)), (ra 2, .inl (kI, 8, .inl q_told)), (ra 11, .inl (kI, 1019, .inl q_now))]) hP hD [1, 2, 0] rfl (by decide +kernel)
          exact hJ37 v5_loc3 v5_loc4 _ _ _ ((iv_w b5 (by decide) (by decide))) ((show x0 1 = x0 1 from rfl)) ((show x0 10 = x0 10 from rfl)) ((show x0 11 = x0 11 from rfl)) ((show x0 14 = x0 14 from rfl)) (hPD9.1) (hPD9.2) hS (lv_sub hl [0, 1, 2, 3, 4] rfl)
        · have b8 : iv 1 9 p1 := iv_ltL (Int32.not_le.mp c6) hp1 ivk_10 (by decide) (by decide)
          refine lv_iload_n hx hb dX11_edgesAt_20 rfl (lv_at hl 3 rfl) ?_
          refine lv_aload_n hx hb dX11_edgesAt_21 rfl (lv_at hl 0 rfl) ?_
          refine lv_iload_n hx hb dX11_edgesAt_22 rfl (lv_at hl 1 rfl) ?_
          refine lv_iload_n hx hb dX11_edgesAt_23 rfl (lv_at hl 2 rfl) ?_
          refine lv_iload hx hb dX11_edgesAt_24 (lv_at hl 4 rfl) ?_
          obtain ⟨hPc, hDc, hFc, hJn⟩ := cl_a (wc := [(m0, .inr (11, oX11 ra x0)), (ra 2, .inl (kI, 8, .inl q_told)), (ra 11, .inl (kI, 1019, .inl q_now))]) (wr := []) hP hD hS hA [1, 2, 0] [] rfl rfl (by decide +kernel)
          refine va_calli (va_runV (As := [.int p0, .int p1, .int v5_loc4]) (rest := [.int v5_loc3]) ⟨hx, hb, hml, hown, hts⟩ (s11_edgesFrom l dC dI kB kI kJ kZ kC kS H.size m0 ra x0 q_told q_now p0 p1 v5_loc4 (hX) (hq_told) (hq_now) (hp0) ((iv_w b8 (by decide) (by decide)))) (cwV 3 hts gX11_edgesAt_X11_edgesFrom rfl rfl rfl (by decide +kernel) ⟨Nat.le_of_ble_eq_true rfl, Nat.le_of_ble_eq_true rfl⟩) ⟨fun a U g mk q => by obtain ⟨q0, q1, qP, qE, qD⟩ := q; exact ⟨q0, q1, qP, kE_call qE, qD⟩, va_recv hK hP (ci := 11) (q0 := 1) rfl rfl, fun U hU hW => ⟨rfl, by rw [hU], by rw [hU]; exact hPc, kE_warm hW hE, hDc.weaken (fun _ _ _ _ => trivial)⟩⟩ rfl rfl hl.1 rfl (lv_room (Nat.le_of_ble_eq_true rfl)) dX11_edgesAt_26 ⟨Nat.le_of_ble_eq_true rfl, Nat.le_of_ble_eq_true rfl⟩) hS (fun q _ h => hFc q h) hFc (fun r9 u t H locs ht hvm w10 hB hz1 hk1 hS => ?_)
          obtain ⟨hP1, hD1⟩ := hB
          try dsimp only at w10
          obtain ⟨hPa, hDa⟩ := hJn (w1 := [(m0, .inr (11, oX11 ra x0)), (ra 2, .inl (kI, 8, .inl q_told)), (ra 11, .inl (kI, 1019, .inl q_now))]) hk1 ht hP1 hD1
          clear hP hD hPc hDc hFc hJn hP1 hD1 hk1
          have hP : va_P (dC, dI) vwCl [(m0, .inr (11, oX11 ra x0)), (ra 2, .inl (kI, 8, .inl q_told)), (ra 11, .inl (kI, 1019, .inl q_now))] H := hPa
          have hD : va_D A [(m0, .inr (11, oX11 ra x0)), (ra 2, .inl (kI, 8, .inl q_told)), (ra 11, .inl (kI, 1019, .inl q_now))] := hDa
          clear hPa hDa
          refine W.widen (k := 0) (n := 0) (Nat.le_of_ble_eq_true rfl) (Nat.le_of_ble_eq_true rfl) ?_
          refine lv_iadd hx hb dX11_edgesAt_29 ?_
          refine lv_topi (fun z11 _ => ?_)
          refine lv_istore_n (lv' := [(3, .int z11), (0, .ref m0), (1, .int p0), (2, .int p1), (4, .int v5_loc4)]) hx hb dX11_edgesAt_30 rfl hl (Nat.le_of_ble_eq_true rfl) rfl (fun ls hl => ?_)
          refine lv_iinc (v := v5_loc4 + Int32.ofInt 1) (lv' := [(4, .int (v5_loc4 + Int32.ofInt 1)), (3, .int z11), (0, .ref m0), (1, .int p0), (2, .int p1)]) hx hb dX11_edgesAt_31 hl (k := 4) rfl (rfl) (Nat.le_of_ble_eq_true rfl) rfl (fun ls hl => ?_)
          have b12 : iv 1 21 (v5_loc4 + Int32.ofInt 1) := iv_add b5 ivo_1 (by decide) (by decide) (by decide) (by decide)
          refine lv_goto (tgt := 5) hx hb dX11_edgesAt_34 rfl ?_
          exact ih5 z11 (v5_loc4 + Int32.ofInt 1) _ _ _ (ms_up (c := 1) (d := 0) b5 hm5 (by decide) (iv_inc 1 b5 (by decide) (by decide) (by decide) (by decide)) (by decide) rfl) ((iv_w b12 (by decide) (by decide))) ((show x0 1 = x0 1 from rfl)) ((show x0 10 = x0 10 from rfl)) ((show x0 11 = x0 11 from rfl)) ((show x0 14 = x0 14 from rfl)) (hP) (hD) hS (lv_sub hl [2, 3, 4, 1, 0] rfl)
  refine lv_iconst (v := 0) hx hb dX11_edgesAt_0 ic_0 ?_
  refine lv_istore_n (lv' := [(3, .int 0), (0, .ref m0), (1, .int p0), (2, .int p1)]) hx hb dX11_edgesAt_1 rfl hl (Nat.le_of_ble_eq_true rfl) rfl (fun ls hl => ?_)
  refine lv_iconst (v := 0) hx hb dX11_edgesAt_2 ic_0 ?_
  refine lv_istore (lv' := [(4, .int 0), (3, .int 0), (0, .ref m0), (1, .int p0), (2, .int p1)]) hx hb dX11_edgesAt_3 hl (Nat.le_of_ble_eq_true rfl) rfl (fun ls hl => ?_)
  exact hJ5 _ 0 0 _ _ _ (Nat.lt_succ_self _) ((iv_w ivk_0 (by decide) (by decide))) ((show x0 1 = x0 1 from rfl)) ((show x0 10 = x0 10 from rfl)) ((show x0 11 = x0 11 from rfl)) ((show x0 14 = x0 14 from rfl)) (hP) (hD) hS (lv_sub hl [2, 3, 4, 1, 0] rfl)
def rm_s11_allSeen : Room := { frames := 3, cells := 0, slots := 0, locals := 69 }
set_option maxHeartbeats 4000000 in
set_option maxRecDepth 100000 in
theorem s11_allSeen (l : Launch) (dC : Nat → ClassId) (dI : Nat → Nat → Nat) (kB kI kJ kZ kC kS : ClassId) (sz : Nat) (m0 : Nat) (ra : Nat → Nat) (x0 : Nat → Int32) (q_told : Nat → Int32) (q_now : Nat → Int32) (hX : fI lX11 hX11 x0) (hq_told : fI lTold hTold q_told) (hq_now : fI lNow hNow q_now) : Met l yX11_allSeen wsX11_allSeen rm_s11_allSeen (va_Pc [.ref m0] (fun U => U.heap.size = sz ∧ va_P (dC, dI) vwCl [(m0, .inr (11, oX11 ra x0)), (ra 2, .inl (kI, 8, .inl q_told)), (ra 11, .inl (kI, 1019, .inl q_now))] U.heap ∧ kE dC dI kB kI kJ kZ kC kS U ∧ va_D (fun _ => True) [(m0, .inr (11, oX11 ra x0)), (ra 2, .inl (kI, 8, .inl q_told)), (ra 11, .inl (kI, 1019, .inl q_now))])) (va_Qi (fun (r : Int32) (_ : Unit) => True) (fun _ t => va_P (dC, dI) vwCl [(m0, .inr (11, oX11 ra x0)), (ra 2, .inl (kI, 8, .inl q_told)), (ra 11, .inl (kI, 1019, .inl q_now))] t.heap ∧ va_D (va_A [(m0, .inr (11, oX11 ra x0)), (ra 2, .inl (kI, 8, .inl q_told)), (ra 11, .inl (kI, 1019, .inl q_now))] sz) [(m0, .inr (11, oX11 ra x0)), (ra 2, .inl (kI, 8, .inl q_told)), (ra 11, .inl (kI, 1019, .inl q_now))]) (va_A [(m0, .inr (11, oX11 ra x0)), (ra 2, .inl (kI, 8, .inl q_told)), (ra 11, .inl (kI, 1019, .inl q_now))] sz)) 0 0 (va_A [(m0, .inr (11, oX11 ra x0)), (ra 2, .inl (kI, 8, .inl q_told)), (ra 11, .inl (kI, 1019, .inl q_now))] sz) := by
  refine Met.ofW (cc := cX11_allSeen) (maxL := 4) (ret := (some .int)) (by decide) rfl ?_
  intro p e s m args0 below meth c s₁ B hml hv
  obtain ⟨hargs, hsz, hP, hE, hD0⟩ := hv
  have hx := B.exec
  have hb := B.bytes
  have hr := B.returns
  have hts := atoms_spec (ws := wsX11_allSeen) B.pre
  have hown : s.vm.findClass RX11 = some m.cls := findClass_of_methodNamed B.named
  have hlocks := B.notSynchronized
  have hK := hE.1
  have hin11 : ∀ w ∈ wsX110, w ∈ wsX11_allSeen := fun _ h9 => List.mem_cons_of_mem _ (List.mem_append_right _ h9)
  subst hsz
  have hD := hD0.self (sz := s.heap.size)
  generalize hAe : va_A [(m0, .inr (11, oX11 ra x0)), (ra 2, .inl (kI, 8, .inl q_told)), (ra 11, .inl (kI, 1019, .inl q_now))] s.heap.size = A at hD ⊢
  have hA : ∀ q : Nat, s.heap.size ≤ q → A q := fun q h => by rw [← hAe]; exact Or.inr h
  have hS : va_S A s.heap s.heap [] := va_S.rf
  have hP : va_P (dC, dI) vwCl [(m0, .inr (11, oX11 ra x0)), (ra 2, .inl (kI, 8, .inl q_told)), (ra 11, .inl (kI, 1019, .inl q_now))] s.heap := hP
  have hl := lv_entry ([.ref m0]) (n := 4) (Nat.le_of_ble_eq_true rfl)
  have hla : entryFrame m args0 4 = entryFrame m ([.ref m0] : List Value).toArray 4 := by rw [hargs]
  rw [hla, lg_entry_eq]
  generalize (lg_sl ([.ref m0]) ++ List.replicate (4 - (lg_sl ([.ref m0])).length) Slot.unset).toArray = ls at hl ⊢
  have hl : lv_has ls 4 [(0, .ref m0)] := hl
  have hJ4 : ∀ (n : Nat) (v4_loc1 : Int32) (v4_loc2 : Int32) (H : Heap) (locs : List Loc) (ls : Array Slot), (3 - v4_loc2.toInt).toNat < n → iv 0 3 v4_loc2 → (x0 1 = x0 1) → (x0 10 = x0 10) → (x0 11 = x0 11) → (x0 14 = x0 14) → va_P (dC, dI) vwCl [(m0, .inr (11, oX11 ra x0)), (ra 2, .inl (kI, 8, .inl q_told)), (ra 11, .inl (kI, 1019, .inl q_now))] H → va_D A [(m0, .inr (11, oX11 ra x0)), (ra 2, .inl (kI, 8, .inl q_told)), (ra 11, .inl (kI, 1019, .inl q_now))] → va_S A s.heap H locs → lv_has ls 4 [(0, .ref m0), (1, .int v4_loc1), (2, .int v4_loc2)] → W p l e (headSpec wsX11_allSeen rm_s11_allSeen).room s m args0 below meth c H locs (0) (0) (MQ below (va_Qi (fun (r : Int32) (_ : Unit) => True) (fun _ t => va_P (dC, dI) vwCl [(m0, .inr (11, oX11 ra x0)), (ra 2, .inl (kI, 8, .inl q_told)), (ra 11, .inl (kI, 1019, .inl q_now))] t.heap ∧ va_D A [(m0, .inr (11, oX11 ra x0)), (ra 2, .inl (kI, 8, .inl q_told)), (ra 11, .inl (kI, 1019, .inl q_now))]) A) args0 s 0 0 A) (F0 m 4 ls []) := by
    intro n
    induction n with
    | zero => intro v4_loc1 v4_loc2 H locs ls hm4; exact absurd hm4 (Nat.not_lt_zero _)
    | succ n ih4 =>
      intro v4_loc1 v4_loc2 H locs ls hm4 h4_1 htp_4 hfp_4 hor_4 hirl_4 hP hD hS hl
      have hJ14 : ∀ (n : Nat) (v14_loc1 : Int32) (v14_loc3 : Int32) (H : Heap) (locs : List Loc) (ls : Array Slot), (11 - v14_loc3.toInt).toNat < n → iv 0 2 v4_loc2 → iv 1 11 v14_loc3 → iv 1 3 (q_told 2) → (x0 1 = x0 1) → (x0 10 = x0 10) → (x0 11 = x0 11) → (x0 14 = x0 14) → va_P (dC, dI) vwCl [(m0, .inr (11, oX11 ra x0)), (ra 2, .inl (kI, 8, .inl q_told)), (ra 11, .inl (kI, 1019, .inl q_now))] H → va_D A [(m0, .inr (11, oX11 ra x0)), (ra 2, .inl (kI, 8, .inl q_told)), (ra 11, .inl (kI, 1019, .inl q_now))] → va_S A s.heap H locs → lv_has ls 4 [(0, .ref m0), (1, .int v14_loc1), (2, .int v4_loc2), (3, .int v14_loc3)] → W p l e (headSpec wsX11_allSeen rm_s11_allSeen).room s m args0 below meth c H locs (0) (0) (MQ below (va_Qi (fun (r : Int32) (_ : Unit) => True) (fun _ t => va_P (dC, dI) vwCl [(m0, .inr (11, oX11 ra x0)), (ra 2, .inl (kI, 8, .inl q_told)), (ra 11, .inl (kI, 1019, .inl q_now))] t.heap ∧ va_D A [(m0, .inr (11, oX11 ra x0)), (ra 2, .inl (kI, 8, .inl q_told)), (ra 11, .inl (kI, 1019, .inl q_now))]) A) args0 s 0 0 A) (F0 m 14 ls []) := by
        intro n
        induction n with
        | zero => intro v14_loc1 v14_loc3 H locs ls hm14; exact absurd hm14 (Nat.not_lt_zero _)
        | succ n ih14 =>
          intro v14_loc1 v14_loc3 H locs ls hm14 h14_1 h14_2 h14_3 htp_14 hfp_14 hor_14 hirl_14 hP hD hS hl
          refine lv_iload_n hx hb dX11_allSeen_14 rfl (lv_at hl 3 rfl) ?_
          refine lv_bipush (v := 10) hx hb dX11_allSeen_15 bp_10 ?_
          refine lv_icmp_gt (tgt := 35) hx hb dX11_allSeen_17 rfl (fun c1 => ?_) (fun c1 => ?_)
          · have b2 : iv 11 11 v14_loc3 := iv_ltR c1 ivk_10 h14_2 (by decide) (by decide)
            refine lv_iinc (v := v4_loc2 + Int32.ofInt 1) (lv' := [(2, .int (v4_loc2 + Int32.ofInt 1)), (0, .ref m0), (1, .int v14_loc1), (3, .int v14_loc3)]) hx hb dX11_allSeen_35 hl (k := 2) rfl (rfl) (Nat.le_of_ble_eq_true rfl) rfl (fun ls hl => ?_)
            have b3 : iv 1 3 (v4_loc2 + Int32.ofInt 1) := iv_add h14_1 ivo_1 (by decide) (by decide) (by decide) (by decide)
            refine lv_goto (tgt := 4) hx hb dX11_allSeen_38 rfl ?_
            exact ih4 v14_loc1 (v4_loc2 + Int32.ofInt 1) _ _ _ (ms_up (c := 1) (d := 0) h14_1 hm4 (by decide) (iv_inc 1 h14_1 (by decide) (by decide) (by decide) (by decide)) (by decide) rfl) ((iv_w b3 (by decide) (by decide))) ((show x0 1 = x0 1 from rfl)) ((show x0 10 = x0 10 from rfl)) ((show x0 11 = x0 11 from rfl)) ((show x0 14 = x0 14 from rfl)) (hP) (hD) hS (lv_sub hl [1, 2, 0] rfl)
          · have b4 : iv 1 10 v14_loc3 := iv_leL (Int32.not_lt.mp c1) h14_2 ivk_10 (by decide) (by decide)
            refine lv_iload_n hx hb dX11_allSeen_20 rfl (lv_at hl 1 rfl) ?_
            refine lv_aload_n hx hb dX11_allSeen_21 rfl (lv_at hl 0 rfl) ?_
            refine lv_iload_n hx hb dX11_allSeen_22 rfl (lv_at hl 2 rfl) ?_
            refine lv_iload_n hx hb dX11_allSeen_23 rfl (lv_at hl 3 rfl) ?_
            obtain ⟨hPc, hDc, hFc, hJn⟩ := cl_a (wc := [(m0, .inr (11, oX11 ra x0)), (ra 11, .inl (kI, 1019, .inl q_now))]) (wr := [(ra 2, .inl (kI, 8, .inl q_told))]) hP hD hS hA [0, 2] [1] rfl rfl (by decide +kernel)
            refine va_calli (va_runV (As := [.int v4_loc2, .int v14_loc3]) (rest := [.int v14_loc1]) ⟨hx, hb, hml, hown, hts⟩ (s11_addresses l dC dI kB kI kJ kZ kC kS H.size m0 ra x0 q_now v4_loc2 v14_loc3 (hX) (hq_now) (h14_1) (b4)) (cwV 2 hts gX11_allSeen_X11_addresses rfl rfl rfl (by decide +kernel) ⟨Nat.le_of_ble_eq_true rfl, Nat.le_of_ble_eq_true rfl⟩) ⟨fun a U g mk q => by obtain ⟨q0, q1, qP, qE, qD⟩ := q; exact ⟨q0, q1, qP, kE_call qE, qD⟩, va_recv hK hP (ci := 11) (q0 := 0) rfl rfl, fun U hU hW => ⟨rfl, by rw [hU], by rw [hU]; exact hPc, kE_warm hW hE, hDc.weaken (fun _ _ _ _ => trivial)⟩⟩ rfl rfl hl.1 rfl (lv_room (Nat.le_of_ble_eq_true rfl)) dX11_allSeen_24 ⟨Nat.le_of_ble_eq_true rfl, Nat.le_of_ble_eq_true rfl⟩) hS (fun q _ h => hFc q h) hFc (fun r5 u t H locs ht hvm w6 hB hz1 hk1 hS => ?_)
            obtain ⟨hP1, hD1⟩ := hB
            try dsimp only at w6
            obtain ⟨hPa, hDa⟩ := hJn (w1 := [(m0, .inr (11, oX11 ra x0)), (ra 11, .inl (kI, 1019, .inl q_now))]) hk1 ht hP1 hD1
            clear hP hD hPc hDc hFc hJn hP1 hD1 hk1
            have hP : va_P (dC, dI) vwCl [(ra 2, .inl (kI, 8, .inl q_told)), (m0, .inr (11, oX11 ra x0)), (ra 11, .inl (kI, 1019, .inl q_now))] H := hPa
            have hD : va_D A [(ra 2, .inl (kI, 8, .inl q_told)), (m0, .inr (11, oX11 ra x0)), (ra 11, .inl (kI, 1019, .inl q_now))] := hDa
            clear hPa hDa
            refine W.widen (k := 0) (n := 0) (Nat.le_of_ble_eq_true rfl) (Nat.le_of_ble_eq_true rfl) ?_
            refine lv_ior hx hb dX11_allSeen_27 ?_
            refine lv_topi (fun z7 _ => ?_)
            refine lv_istore_n (lv' := [(1, .int z7), (0, .ref m0), (2, .int v4_loc2), (3, .int v14_loc3)]) hx hb dX11_allSeen_28 rfl hl (Nat.le_of_ble_eq_true rfl) rfl (fun ls hl => ?_)
            refine lv_iinc (v := v14_loc3 + Int32.ofInt 1) (lv' := [(3, .int (v14_loc3 + Int32.ofInt 1)), (1, .int z7), (0, .ref m0), (2, .int v4_loc2)]) hx hb dX11_allSeen_29 hl (k := 3) rfl (rfl) (Nat.le_of_ble_eq_true rfl) rfl (fun ls hl => ?_)
            have b8 : iv 2 11 (v14_loc3 + Int32.ofInt 1) := iv_add b4 ivo_1 (by decide) (by decide) (by decide) (by decide)
            refine lv_goto (tgt := 14) hx hb dX11_allSeen_32 rfl ?_
            have hPD9 := cl_s (wc := [(m0, .inr (11, oX11 ra x0)), (ra 2, .inl (kI, 8, .inl q_told)), (ra 11, .inl (kI, 1019, .inl q_now))]) hP hD [1, 0, 2] rfl (by decide +kernel)
            exact ih14 z7 (v14_loc3 + Int32.ofInt 1) _ _ _ (ms_up (c := 1) (d := 0) b4 hm14 (by decide) (iv_inc 1 b4 (by decide) (by decide) (by decide) (by decide)) (by decide) rfl) (h14_1) ((iv_w b8 (by decide) (by decide))) (h14_3) ((show x0 1 = x0 1 from rfl)) ((show x0 10 = x0 10 from rfl)) ((show x0 11 = x0 11 from rfl)) ((show x0 14 = x0 14 from rfl)) (hPD9.1) (hPD9.2) hS (lv_sub hl [2, 1, 3, 0] rfl)
      refine lv_iload_n hx hb dX11_allSeen_4 rfl (lv_at hl 2 rfl) ?_
      refine lv_aload_n hx hb dX11_allSeen_5 rfl (lv_at hl 0 rfl) ?_
      obtain ⟨hPc, hDc, hFc, hJn⟩ := cl_a (wc := [(m0, .inr (11, oX11 ra x0)), (ra 2, .inl (kI, 8, .inl q_told))]) (wr := [(ra 11, .inl (kI, 1019, .inl q_now))]) hP hD hS hA [0, 1] [2] rfl rfl (by decide +kernel)
      refine va_calli (va_runV (As := []) (rest := [.int v4_loc2]) ⟨hx, hb, hml, hown, hts⟩ (s11_goals l dC dI kB kI kJ kZ kC kS H.size m0 ra x0 q_told (hX) (hq_told)) (cwV 0 hts gX11_allSeen_X11_goals rfl rfl rfl (by decide +kernel) ⟨Nat.le_of_ble_eq_true rfl, Nat.le_of_ble_eq_true rfl⟩) ⟨fun a U g mk q => by obtain ⟨q0, q1, qP, qE, qD⟩ := q; exact ⟨q0, q1, qP, kE_call qE, qD⟩, va_recv hK hP (ci := 11) (q0 := 0) rfl rfl, fun U hU hW => ⟨rfl, by rw [hU], by rw [hU]; exact hPc, kE_warm hW hE, hDc.weaken (fun _ _ _ _ => trivial)⟩⟩ rfl rfl hl.1 rfl (lv_room (Nat.le_of_ble_eq_true rfl)) dX11_allSeen_6 ⟨Nat.le_of_ble_eq_true rfl, Nat.le_of_ble_eq_true rfl⟩) hS (fun q _ h => hFc q h) hFc (fun r9 u t H locs ht hvm w10 hB hz1 hk1 hS => ?_)
      obtain ⟨hP1, hD1⟩ := hB
      try dsimp only at w10
      obtain ⟨hPa, hDa⟩ := hJn (w1 := [(m0, .inr (11, oX11 ra x0)), (ra 2, .inl (kI, 8, .inl q_told))]) hk1 ht hP1 hD1
      clear hP hD hPc hDc hFc hJn hP1 hD1 hk1
      have hP : va_P (dC, dI) vwCl [(ra 11, .inl (kI, 1019, .inl q_now)), (m0, .inr (11, oX11 ra x0)), (ra 2, .inl (kI, 8, .inl q_told))] H := hPa
      have hD : va_D A [(ra 11, .inl (kI, 1019, .inl q_now)), (m0, .inr (11, oX11 ra x0)), (ra 2, .inl (kI, 8, .inl q_told))] := hDa
      clear hPa hDa
      refine W.widen (k := 0) (n := 0) (Nat.le_of_ble_eq_true rfl) (Nat.le_of_ble_eq_true rfl) ?_
      subst w10
      refine lv_icmp_ge (tgt := 41) hx hb dX11_allSeen_9 rfl (fun c11 => ?_) (fun c11 => ?_)
      · refine lv_iload_n hx hb dX11_allSeen_41 rfl (lv_at hl 1 rfl) ?_
        have hPD9 := cl_s (wc := [(m0, .inr (11, oX11 ra x0)), (ra 2, .inl (kI, 8, .inl q_told)), (ra 11, .inl (kI, 1019, .inl q_now))]) hP hD [1, 2, 0] rfl (by decide +kernel)
        have hP9 := hPD9.1
        have hD9 := hPD9.2
        exact W.iret (v := v4_loc1) hx hb hr (fun t ht hW => ⟨⟨v4_loc1, (), rfl, trivial, by rw [ht]; exact hP9, hD9⟩, hS.F ht⟩) hS.2.2 dX11_allSeen_42
      · have b12 : iv 0 2 v4_loc2 := iv_ltL (Int32.not_le.mp c11) h4_1 (hq_told 2 : iv 0 3 (q_told 2)) (by decide) (by decide)
        have b13 : iv 1 3 (q_told 2) := iv_ltR (Int32.not_le.mp c11) h4_1 (hq_told 2 : iv 0 3 (q_told 2)) (by decide) (by decide)
        refine lv_iconst (v := 1) hx hb dX11_allSeen_12 ic_1 ?_
        refine lv_istore_n (lv' := [(3, .int 1), (0, .ref m0), (1, .int v4_loc1), (2, .int v4_loc2)]) hx hb dX11_allSeen_13 rfl hl (Nat.le_of_ble_eq_true rfl) rfl (fun ls hl => ?_)
        have hPD9 := cl_s (wc := [(m0, .inr (11, oX11 ra x0)), (ra 2, .inl (kI, 8, .inl q_told)), (ra 11, .inl (kI, 1019, .inl q_now))]) hP hD [1, 2, 0] rfl (by decide +kernel)
        exact hJ14 _ v4_loc1 1 _ _ _ (Nat.lt_succ_self _) (b12) ((iv_w ivk_1 (by decide) (by decide))) (b13) ((show x0 1 = x0 1 from rfl)) ((show x0 10 = x0 10 from rfl)) ((show x0 11 = x0 11 from rfl)) ((show x0 14 = x0 14 from rfl)) (hPD9.1) (hPD9.2) hS (lv_sub hl [1, 2, 3, 0] rfl)
  refine lv_iconst (v := 0) hx hb dX11_allSeen_0 ic_0 ?_
  refine lv_istore_n (lv' := [(1, .int 0), (0, .ref m0)]) hx hb dX11_allSeen_1 rfl hl (Nat.le_of_ble_eq_true rfl) rfl (fun ls hl => ?_)
  refine lv_iconst (v := 0) hx hb dX11_allSeen_2 ic_0 ?_
  refine lv_istore_n (lv' := [(2, .int 0), (1, .int 0), (0, .ref m0)]) hx hb dX11_allSeen_3 rfl hl (Nat.le_of_ble_eq_true rfl) rfl (fun ls hl => ?_)
  exact hJ4 _ 0 0 _ _ _ (Nat.lt_succ_self _) ((iv_w ivk_0 (by decide) (by decide))) ((show x0 1 = x0 1 from rfl)) ((show x0 10 = x0 10 from rfl)) ((show x0 11 = x0 11 from rfl)) ((show x0 14 = x0 14 from rfl)) (hP) (hD) hS (lv_sub hl [2, 1, 0] rfl)
def rm_s11_edgesAll : Room := { frames := 5, cells := 0, slots := 0, locals := 120 }
set_option maxHeartbeats 4000000 in
set_option maxRecDepth 100000 in
theorem s11_edgesAll (l : Launch) (dC : Nat → ClassId) (dI : Nat → Nat → Nat) (kB kI kJ kZ kC kS : ClassId) (sz : Nat) (m0 : Nat) (ra : Nat → Nat) (x0 : Nat → Int32) (q_told : Nat → Int32) (q_now : Nat → Int32) (hX : fI lX11 hX11 x0) (hq_told : fI lTold hTold q_told) (hq_now : fI lNow hNow q_now) : Met l yX11_edgesAll wsX11_edgesAll rm_s11_edgesAll (va_Pc [.ref m0] (fun U => U.heap.size = sz ∧ va_P (dC, dI) vwCl [(m0, .inr (11, oX11 ra x0)), (ra 2, .inl (kI, 8, .inl q_told)), (ra 11, .inl (kI, 1019, .inl q_now))] U.heap ∧ kE dC dI kB kI kJ kZ kC kS U ∧ va_D (fun _ => True) [(m0, .inr (11, oX11 ra x0)), (ra 2, .inl (kI, 8, .inl q_told)), (ra 11, .inl (kI, 1019, .inl q_now))])) (va_Qi (fun (r : Int32) (_ : Unit) => True) (fun _ t => va_P (dC, dI) vwCl [(m0, .inr (11, oX11 ra x0)), (ra 2, .inl (kI, 8, .inl q_told)), (ra 11, .inl (kI, 1019, .inl q_now))] t.heap ∧ va_D (va_A [(m0, .inr (11, oX11 ra x0)), (ra 2, .inl (kI, 8, .inl q_told)), (ra 11, .inl (kI, 1019, .inl q_now))] sz) [(m0, .inr (11, oX11 ra x0)), (ra 2, .inl (kI, 8, .inl q_told)), (ra 11, .inl (kI, 1019, .inl q_now))]) (va_A [(m0, .inr (11, oX11 ra x0)), (ra 2, .inl (kI, 8, .inl q_told)), (ra 11, .inl (kI, 1019, .inl q_now))] sz)) 0 0 (va_A [(m0, .inr (11, oX11 ra x0)), (ra 2, .inl (kI, 8, .inl q_told)), (ra 11, .inl (kI, 1019, .inl q_now))] sz) := by
  refine Met.ofW (cc := cX11_edgesAll) (maxL := 4) (ret := (some .int)) (by decide) rfl ?_
  intro p e s m args0 below meth c s₁ B hml hv
  obtain ⟨hargs, hsz, hP, hE, hD0⟩ := hv
  have hx := B.exec
  have hb := B.bytes
  have hr := B.returns
  have hts := atoms_spec (ws := wsX11_edgesAll) B.pre
  have hown : s.vm.findClass RX11 = some m.cls := findClass_of_methodNamed B.named
  have hlocks := B.notSynchronized
  have hK := hE.1
  have hin11 : ∀ w ∈ wsX110, w ∈ wsX11_edgesAll := fun _ h9 => List.mem_cons_of_mem _ (List.mem_append_right _ h9)
  subst hsz
  have hD := hD0.self (sz := s.heap.size)
  generalize hAe : va_A [(m0, .inr (11, oX11 ra x0)), (ra 2, .inl (kI, 8, .inl q_told)), (ra 11, .inl (kI, 1019, .inl q_now))] s.heap.size = A at hD ⊢
  have hA : ∀ q : Nat, s.heap.size ≤ q → A q := fun q h => by rw [← hAe]; exact Or.inr h
  have hS : va_S A s.heap s.heap [] := va_S.rf
  have hP : va_P (dC, dI) vwCl [(m0, .inr (11, oX11 ra x0)), (ra 2, .inl (kI, 8, .inl q_told)), (ra 11, .inl (kI, 1019, .inl q_now))] s.heap := hP
  have hl := lv_entry ([.ref m0]) (n := 4) (Nat.le_of_ble_eq_true rfl)
  have hla : entryFrame m args0 4 = entryFrame m ([.ref m0] : List Value).toArray 4 := by rw [hargs]
  rw [hla, lg_entry_eq]
  generalize (lg_sl ([.ref m0]) ++ List.replicate (4 - (lg_sl ([.ref m0])).length) Slot.unset).toArray = ls at hl ⊢
  have hl : lv_has ls 4 [(0, .ref m0)] := hl
  have hJ4 : ∀ (n : Nat) (v4_loc1 : Int32) (v4_loc2 : Int32) (H : Heap) (locs : List Loc) (ls : Array Slot), (3 - v4_loc2.toInt).toNat < n → iv 0 3 v4_loc2 → (x0 1 = x0 1) → (x0 10 = x0 10) → (x0 11 = x0 11) → (x0 14 = x0 14) → va_P (dC, dI) vwCl [(m0, .inr (11, oX11 ra x0)), (ra 2, .inl (kI, 8, .inl q_told)), (ra 11, .inl (kI, 1019, .inl q_now))] H → va_D A [(m0, .inr (11, oX11 ra x0)), (ra 2, .inl (kI, 8, .inl q_told)), (ra 11, .inl (kI, 1019, .inl q_now))] → va_S A s.heap H locs → lv_has ls 4 [(0, .ref m0), (1, .int v4_loc1), (2, .int v4_loc2)] → W p l e (headSpec wsX11_edgesAll rm_s11_edgesAll).room s m args0 below meth c H locs (0) (0) (MQ below (va_Qi (fun (r : Int32) (_ : Unit) => True) (fun _ t => va_P (dC, dI) vwCl [(m0, .inr (11, oX11 ra x0)), (ra 2, .inl (kI, 8, .inl q_told)), (ra 11, .inl (kI, 1019, .inl q_now))] t.heap ∧ va_D A [(m0, .inr (11, oX11 ra x0)), (ra 2, .inl (kI, 8, .inl q_told)), (ra 11, .inl (kI, 1019, .inl q_now))]) A) args0 s 0 0 A) (F0 m 4 ls []) := by
    intro n
    induction n with
    | zero => intro v4_loc1 v4_loc2 H locs ls hm4; exact absurd hm4 (Nat.not_lt_zero _)
    | succ n ih4 =>
      intro v4_loc1 v4_loc2 H locs ls hm4 h4_1 htp_4 hfp_4 hor_4 hirl_4 hP hD hS hl
      have hJ14 : ∀ (n : Nat) (v14_loc1 : Int32) (v14_loc3 : Int32) (H : Heap) (locs : List Loc) (ls : Array Slot), (10 - v14_loc3.toInt).toNat < n → iv 0 2 v4_loc2 → iv 1 10 v14_loc3 → iv 1 3 (q_told 2) → (x0 1 = x0 1) → (x0 10 = x0 10) → (x0 11 = x0 11) → (x0 14 = x0 14) → va_P (dC, dI) vwCl [(m0, .inr (11, oX11 ra x0)), (ra 2, .inl (kI, 8, .inl q_told)), (ra 11, .inl (kI, 1019, .inl q_now))] H → va_D A [(m0, .inr (11, oX11 ra x0)), (ra 2, .inl (kI, 8, .inl q_told)), (ra 11, .inl (kI, 1019, .inl q_now))] → va_S A s.heap H locs → lv_has ls 4 [(0, .ref m0), (1, .int v14_loc1), (2, .int v4_loc2), (3, .int v14_loc3)] → W p l e (headSpec wsX11_edgesAll rm_s11_edgesAll).room s m args0 below meth c H locs (0) (0) (MQ below (va_Qi (fun (r : Int32) (_ : Unit) => True) (fun _ t => va_P (dC, dI) vwCl [(m0, .inr (11, oX11 ra x0)), (ra 2, .inl (kI, 8, .inl q_told)), (ra 11, .inl (kI, 1019, .inl q_now))] t.heap ∧ va_D A [(m0, .inr (11, oX11 ra x0)), (ra 2, .inl (kI, 8, .inl q_told)), (ra 11, .inl (kI, 1019, .inl q_now))]) A) args0 s 0 0 A) (F0 m 14 ls []) := by
        intro n
        induction n with
        | zero => intro v14_loc1 v14_loc3 H locs ls hm14; exact absurd hm14 (Nat.not_lt_zero _)
        | succ n ih14 =>
          intro v14_loc1 v14_loc3 H locs ls hm14 h14_1 h14_2 h14_3 htp_14 hfp_14 hor_14 hirl_14 hP hD hS hl
          refine lv_iload_n hx hb dX11_edgesAll_14 rfl (lv_at hl 3 rfl) ?_
          refine lv_bipush (v := 10) hx hb dX11_edgesAll_15 bp_10 ?_
          refine lv_icmp_ge (tgt := 35) hx hb dX11_edgesAll_17 rfl (fun c1 => ?_) (fun c1 => ?_)
          · have b2 : iv 10 10 v14_loc3 := iv_leR c1 ivk_10 h14_2 (by decide) (by decide)
            refine lv_iinc (v := v4_loc2 + Int32.ofInt 1) (lv' := [(2, .int (v4_loc2 + Int32.ofInt 1)), (0, .ref m0), (1, .int v14_loc1), (3, .int v14_loc3)]) hx hb dX11_edgesAll_35 hl (k := 2) rfl (rfl) (Nat.le_of_ble_eq_true rfl) rfl (fun ls hl => ?_)
            have b3 : iv 1 3 (v4_loc2 + Int32.ofInt 1) := iv_add h14_1 ivo_1 (by decide) (by decide) (by decide) (by decide)
            refine lv_goto (tgt := 4) hx hb dX11_edgesAll_38 rfl ?_
            exact ih4 v14_loc1 (v4_loc2 + Int32.ofInt 1) _ _ _ (ms_up (c := 1) (d := 0) h14_1 hm4 (by decide) (iv_inc 1 h14_1 (by decide) (by decide) (by decide) (by decide)) (by decide) rfl) ((iv_w b3 (by decide) (by decide))) ((show x0 1 = x0 1 from rfl)) ((show x0 10 = x0 10 from rfl)) ((show x0 11 = x0 11 from rfl)) ((show x0 14 = x0 14 from rfl)) (hP) (hD) hS (lv_sub hl [1, 2, 0] rfl)
          · have b4 : iv 1 9 v14_loc3 := iv_ltL (Int32.not_le.mp c1) h14_2 ivk_10 (by decide) (by decide)
            refine lv_iload_n hx hb dX11_edgesAll_20 rfl (lv_at hl 1 rfl) ?_
            refine lv_aload_n hx hb dX11_edgesAll_21 rfl (lv_at hl 0 rfl) ?_
            refine lv_iload_n hx hb dX11_edgesAll_22 rfl (lv_at hl 2 rfl) ?_
            refine lv_iload_n hx hb dX11_edgesAll_23 rfl (lv_at hl 3 rfl) ?_
            obtain ⟨hPc, hDc, hFc, hJn⟩ := cl_a (wc := [(m0, .inr (11, oX11 ra x0)), (ra 2, .inl (kI, 8, .inl q_told)), (ra 11, .inl (kI, 1019, .inl q_now))]) (wr := []) hP hD hS hA [0, 1, 2] [] rfl rfl (by decide +kernel)
            refine va_calli (va_runV (As := [.int v4_loc2, .int v14_loc3]) (rest := [.int v14_loc1]) ⟨hx, hb, hml, hown, hts⟩ (s11_edgesAt l dC dI kB kI kJ kZ kC kS H.size m0 ra x0 q_told q_now v4_loc2 v14_loc3 (hX) (hq_told) (hq_now) (h14_1) ((iv_w b4 (by decide) (by decide)))) (cwV 2 hts gX11_edgesAll_X11_edgesAt rfl rfl rfl (by decide +kernel) ⟨Nat.le_of_ble_eq_true rfl, Nat.le_of_ble_eq_true rfl⟩) ⟨fun a U g mk q => by obtain ⟨q0, q1, qP, qE, qD⟩ := q; exact ⟨q0, q1, qP, kE_call qE, qD⟩, va_recv hK hP (ci := 11) (q0 := 0) rfl rfl, fun U hU hW => ⟨rfl, by rw [hU], by rw [hU]; exact hPc, kE_warm hW hE, hDc.weaken (fun _ _ _ _ => trivial)⟩⟩ rfl rfl hl.1 rfl (lv_room (Nat.le_of_ble_eq_true rfl)) dX11_edgesAll_24 ⟨Nat.le_of_ble_eq_true rfl, Nat.le_of_ble_eq_true rfl⟩) hS (fun q _ h => hFc q h) hFc (fun r5 u t H locs ht hvm w6 hB hz1 hk1 hS => ?_)
            obtain ⟨hP1, hD1⟩ := hB
            try dsimp only at w6
            obtain ⟨hPa, hDa⟩ := hJn (w1 := [(m0, .inr (11, oX11 ra x0)), (ra 2, .inl (kI, 8, .inl q_told)), (ra 11, .inl (kI, 1019, .inl q_now))]) hk1 ht hP1 hD1
            clear hP hD hPc hDc hFc hJn hP1 hD1 hk1
            have hP : va_P (dC, dI) vwCl [(m0, .inr (11, oX11 ra x0)), (ra 2, .inl (kI, 8, .inl q_told)), (ra 11, .inl (kI, 1019, .inl q_now))] H := hPa
            have hD : va_D A [(m0, .inr (11, oX11 ra x0)), (ra 2, .inl (kI, 8, .inl q_told)), (ra 11, .inl (kI, 1019, .inl q_now))] := hDa
            clear hPa hDa
            refine W.widen (k := 0) (n := 0) (Nat.le_of_ble_eq_true rfl) (Nat.le_of_ble_eq_true rfl) ?_
            refine lv_iadd hx hb dX11_edgesAll_27 ?_
            refine lv_topi (fun z7 _ => ?_)
            refine lv_istore_n (lv' := [(1, .int z7), (0, .ref m0), (2, .int v4_loc2), (3, .int v14_loc3)]) hx hb dX11_edgesAll_28 rfl hl (Nat.le_of_ble_eq_true rfl) rfl (fun ls hl => ?_)
            refine lv_iinc (v := v14_loc3 + Int32.ofInt 1) (lv' := [(3, .int (v14_loc3 + Int32.ofInt 1)), (1, .int z7), (0, .ref m0), (2, .int v4_loc2)]) hx hb dX11_edgesAll_29 hl (k := 3) rfl (rfl) (Nat.le_of_ble_eq_true rfl) rfl (fun ls hl => ?_)
            have b8 : iv 2 10 (v14_loc3 + Int32.ofInt 1) := iv_add b4 ivo_1 (by decide) (by decide) (by decide) (by decide)
            refine lv_goto (tgt := 14) hx hb dX11_edgesAll_32 rfl ?_
            exact ih14 z7 (v14_loc3 + Int32.ofInt 1) _ _ _ (ms_up (c := 1) (d := 0) b4 hm14 (by decide) (iv_inc 1 b4 (by decide) (by decide) (by decide) (by decide)) (by decide) rfl) (h14_1) ((iv_w b8 (by decide) (by decide))) (h14_3) ((show x0 1 = x0 1 from rfl)) ((show x0 10 = x0 10 from rfl)) ((show x0 11 = x0 11 from rfl)) ((show x0 14 = x0 14 from rfl)) (hP) (hD) hS (lv_sub hl [2, 1, 3, 0] rfl)
      refine lv_iload_n hx hb dX11_edgesAll_4 rfl (lv_at hl 2 rfl) ?_
      refine lv_aload_n hx hb dX11_edgesAll_5 rfl (lv_at hl 0 rfl) ?_
      obtain ⟨hPc, hDc, hFc, hJn⟩ := cl_a (wc := [(m0, .inr (11, oX11 ra x0)), (ra 2, .inl (kI, 8, .inl q_told))]) (wr := [(ra 11, .inl (kI, 1019, .inl q_now))]) hP hD hS hA [0, 1] [2] rfl rfl (by decide +kernel)
      refine va_calli (va_runV (As := []) (rest := [.int v4_loc2]) ⟨hx, hb, hml, hown, hts⟩ (s11_goals l dC dI kB kI kJ kZ kC kS H.size m0 ra x0 q_told (hX) (hq_told)) (cwV 0 hts gX11_edgesAll_X11_goals rfl rfl rfl (by decide +kernel) ⟨Nat.le_of_ble_eq_true rfl, Nat.le_of_ble_eq_true rfl⟩) ⟨fun a U g mk q => by obtain ⟨q0, q1, qP, qE, qD⟩ := q; exact ⟨q0, q1, qP, kE_call qE, qD⟩, va_recv hK hP (ci := 11) (q0 := 0) rfl rfl, fun U hU hW => ⟨rfl, by rw [hU], by rw [hU]; exact hPc, kE_warm hW hE, hDc.weaken (fun _ _ _ _ => trivial)⟩⟩ rfl rfl hl.1 rfl (lv_room (Nat.le_of_ble_eq_true rfl)) dX11_edgesAll_6 ⟨Nat.le_of_ble_eq_true rfl, Nat.le_of_ble_eq_true rfl⟩) hS (fun q _ h => hFc q h) hFc (fun r9 u t H locs ht hvm w10 hB hz1 hk1 hS => ?_)
      obtain ⟨hP1, hD1⟩ := hB
      try dsimp only at w10
      obtain ⟨hPa, hDa⟩ := hJn (w1 := [(m0, .inr (11, oX11 ra x0)), (ra 2, .inl (kI, 8, .inl q_told))]) hk1 ht hP1 hD1
      clear hP hD hPc hDc hFc hJn hP1 hD1 hk1
      have hP : va_P (dC, dI) vwCl [(ra 11, .inl (kI, 1019, .inl q_now)), (m0, .inr (11, oX11 ra x0)), (ra 2, .inl (kI, 8, .inl q_told))] H := hPa
      have hD : va_D A [(ra 11, .inl (kI, 1019, .inl q_now)), (m0, .inr (11, oX11 ra x0)), (ra 2, .inl (kI, 8, .inl q_told))] := hDa
      clear hPa hDa
      refine W.widen (k := 0) (n := 0) (Nat.le_of_ble_eq_true rfl) (Nat.le_of_ble_eq_true rfl) ?_
      subst w10
      refine lv_icmp_ge (tgt := 41) hx hb dX11_edgesAll_9 rfl (fun c11 => ?_) (fun c11 => ?_)
      · refine lv_iload_n hx hb dX11_edgesAll_41 rfl (lv_at hl 1 rfl) ?_
        have hPD9 := cl_s (wc := [(m0, .inr (11, oX11 ra x0)), (ra 2, .inl (kI, 8, .inl q_told)), (ra 11, .inl (kI, 1019, .inl q_now))]) hP hD [1, 2, 0] rfl (by decide +kernel)
        have hP9 := hPD9.1
        have hD9 := hPD9.2
        exact W.iret (v := v4_loc1) hx hb hr (fun t ht hW => ⟨⟨v4_loc1, (), rfl, trivial, by rw [ht]; exact hP9, hD9⟩, hS.F ht⟩) hS.2.2 dX11_edgesAll_42
      · have b12 : iv 0 2 v4_loc2 := iv_ltL (Int32.not_le.mp c11) h4_1 (hq_told 2 : iv 0 3 (q_told 2)) (by decide) (by decide)
        have b13 : iv 1 3 (q_told 2) := iv_ltR (Int32.not_le.mp c11) h4_1 (hq_told 2 : iv 0 3 (q_told 2)) (by decide) (by decide)
        refine lv_iconst (v := 1) hx hb dX11_edgesAll_12 ic_1 ?_
        refine lv_istore_n (lv' := [(3, .int 1), (0, .ref m0), (1, .int v4_loc1), (2, .int v4_loc2)]) hx hb dX11_edgesAll_13 rfl hl (Nat.le_of_ble_eq_true rfl) rfl (fun ls hl => ?_)
        have hPD9 := cl_s (wc := [(m0, .inr (11, oX11 ra x0)), (ra 2, .inl (kI, 8, .inl q_told)), (ra 11, .inl (kI, 1019, .inl q_now))]) hP hD [1, 2, 0] rfl (by decide +kernel)
        exact hJ14 _ v4_loc1 1 _ _ _ (Nat.lt_succ_self _) (b12) ((iv_w ivk_1 (by decide) (by decide))) (b13) ((show x0 1 = x0 1 from rfl)) ((show x0 10 = x0 10 from rfl)) ((show x0 11 = x0 11 from rfl)) ((show x0 14 = x0 14 from rfl)) (hPD9.1) (hPD9.2) hS (lv_sub hl [1, 2, 3, 0] rfl)
  refine lv_iconst (v := 0) hx hb dX11_edgesAll_0 ic_0 ?_
  refine lv_istore_n (lv' := [(1, .int 0), (0, .ref m0)]) hx hb dX11_edgesAll_1 rfl hl (Nat.le_of_ble_eq_true rfl) rfl (fun ls hl => ?_)
  refine lv_iconst (v := 0) hx hb dX11_edgesAll_2 ic_0 ?_
  refine lv_istore_n (lv' := [(2, .int 0), (1, .int 0), (0, .ref m0)]) hx hb dX11_edgesAll_3 rfl hl (Nat.le_of_ble_eq_true rfl) rfl (fun ls hl => ?_)
  exact hJ4 _ 0 0 _ _ _ (Nat.lt_succ_self _) ((iv_w ivk_0 (by decide) (by decide))) ((show x0 1 = x0 1 from rfl)) ((show x0 10 = x0 10 from rfl)) ((show x0 11 = x0 11 from rfl)) ((show x0 14 = x0 14 from rfl)) (hP) (hD) hS (lv_sub hl [2, 1, 0] rfl)
def rm_s11_opens : Room := { frames := 1, cells := 0, slots := 0, locals := 21 }
set_option maxHeartbeats 4000000 in
set_option maxRecDepth 100000 in
theorem s11_opens (l : Launch) (dC : Nat → ClassId) (dI : Nat → Nat → Nat) (kB kI kJ kZ kC kS : ClassId) (sz : Nat) (m0 : Nat) (ra : Nat → Nat) (x0 : Nat → Int32) (q_now : Nat → Int32) (p0 : Int32) (hX : fI lX11 hX11 x0) (hq_now : fI lNow hNow q_now) : Met l yX11_opens wsX11_opens rm_s11_opens (va_Pc [.ref m0, .int p0] (fun U => U.heap.size = sz ∧ va_P (dC, dI) vwCl [(m0, .inr (11, oX11 ra x0)), (ra 11, .inl (kI, 1019, .inl q_now))] U.heap ∧ kE dC dI kB kI kJ kZ kC kS U ∧ va_D (fun _ => True) [(m0, .inr (11, oX11 ra x0)), (ra 11, .inl (kI, 1019, .inl q_now))])) (va_Qv (fun (_ : Unit) => True) (fun _ t => ∃ (q_now' : Nat → Int32), fI lNow hNow q_now' ∧ va_P (dC, dI) vwCl [(m0, .inr (11, oX11 ra x0)), (ra 11, .inl (kI, 1019, .inl q_now'))] t.heap ∧ va_D (va_A [(m0, .inr (11, oX11 ra x0)), (ra 11, .inl (kI, 1019, .inl q_now))] sz) [(m0, .inr (11, oX11 ra x0)), (ra 11, .inl (kI, 1019, .inl q_now'))]) (va_A [(m0, .inr (11, oX11 ra x0)), (ra 11, .inl (kI, 1019, .inl q_now))] sz)) 0 0 (va_A [(m0, .inr (11, oX11 ra x0)), (ra 11, .inl (kI, 1019, .inl q_now))] sz) := by
  refine Met.ofW (cc := cX11_opens) (maxL := 2) (ret := none) (by decide) rfl ?_
  intro p e s m args0 below meth c s₁ B hml hv
  obtain ⟨hargs, hsz, hP, hE, hD0⟩ := hv
  have hx := B.exec
  have hb := B.bytes
  have hr := B.returns
  have hts := atoms_spec (ws := wsX11_opens) B.pre
  have hown : s.vm.findClass RX11 = some m.cls := findClass_of_methodNamed B.named
  have hlocks := B.notSynchronized
  have hK := hE.1
  have hin11 : ∀ w ∈ wsX110, w ∈ wsX11_opens := fun _ h9 => List.mem_cons_of_mem _ (List.mem_append_right _ h9)
  have hw_0 := hts (.fieldLink RX11 60 "PathProberModel" "now" "[I") (List.mem_of_getElem? (i := 1) rfl)
  have hw_1 := hts (.methodLink RX11 328 Lib.Math.max.name) (List.mem_of_getElem? (i := 2) rfl)
  have hw_2 := hts (.static Lib.Math.max.name) (List.mem_of_getElem? (i := 3) rfl)
  have hw_3 := hts (.initialized "java/lang/Math") (List.mem_of_getElem? (i := 4) rfl)
  have hw_4 := hts (.code Lib.Math.max.name Lib.Math.max.code 2 (some .int)) (List.mem_of_getElem? (i := 5) rfl)
  subst hsz
  have hD := hD0.self (sz := s.heap.size)
  generalize hAe : va_A [(m0, .inr (11, oX11 ra x0)), (ra 11, .inl (kI, 1019, .inl q_now))] s.heap.size = A at hD ⊢
  have hA : ∀ q : Nat, s.heap.size ≤ q → A q := fun q h => by rw [← hAe]; exact Or.inr h
  have hS : va_S A s.heap s.heap [] := va_S.rf
  have hP : va_P (dC, dI) vwCl [(m0, .inr (11, oX11 ra x0)), (ra 11, .inl (kI, 1019, .inl q_now))] s.heap := hP
  have hl := lv_entry ([.ref m0, .int p0]) (n := 2) (Nat.le_of_ble_eq_true rfl)
  have hla : entryFrame m args0 2 = entryFrame m ([.ref m0, .int p0] : List Value).toArray 2 := by rw [hargs]
  rw [hla, lg_entry_eq]
  generalize (lg_sl ([.ref m0, .int p0]) ++ List.replicate (2 - (lg_sl ([.ref m0, .int p0])).length) Slot.unset).toArray = ls at hl ⊢
  have hl : lv_has ls 2 [(0, .ref m0), (1, .int p0)] := hl
  refine lv_aload_n hx hb dX11_opens_0 rfl (lv_at hl 0 rfl) ?_
  refine va_get (D := (dC, dI)) (ci := 11) (v := .ref (ra 11)) (C := RX11) (T := TX11) (N := 61) hx hb hts hin11 hown hK hP 0 rfl rfl 12 (Nat.le_of_ble_eq_true rfl) hw_0 (fun _ h9 => h9) rfl dX11_opens_1 ?_
  refine lv_bipush (v := 55) hx hb dX11_opens_4 bp_55 ?_
  refine lv_dup2_11 hx hb dX11_opens_6 rfl rfl ?_
  refine va_iald hx hb hK hP 1 1 rfl rfl (vp_in_nI (n := 55) (by decide) (by decide)) dX11_opens_7 ?_
  refine W.eq (g2 := F0 m 8 ls [.int (q_now 55), .int 55, .ref (ra 11)]) rfl ?_
  refine lv_iconst (v := 1) hx hb dX11_opens_8 ic_1 ?_
  refine lv_iadd hx hb dX11_opens_9 ?_
  refine lv_topi (fun z1 _ => ?_)
  refine va_iast hx hb hK hP hD hS 1 1 rfl rfl (vp_in_nI (n := 55) (by decide) (by decide)) dX11_opens_10 (fun H locs hPa hDa hS => ?_)
  clear hP hD
  have hP : va_P (dC, dI) vwCl [(m0, .inr (11, oX11 ra x0)), (ra 11, .inl (kI, 1019, .inl (upd q_now 55 z1)))] H := hPa
  have hD : va_D A [(m0, .inr (11, oX11 ra x0)), (ra 11, .inl (kI, 1019, .inl (upd q_now 55 z1)))] := hDa
  clear hPa hDa
  have hf3 : fI lNow hNow (upd q_now 55 z1) := fI_u hq_now (k := 55) ((iv_t z1))
  generalize (upd q_now 55 z1) = f2 at hP hD hf3
  refine lv_aload_n hx hb dX11_opens_11 rfl (lv_at hl 0 rfl) ?_
  refine va_get (D := (dC, dI)) (ci := 11) (v := .ref (ra 11)) (C := RX11) (T := TX11) (N := 61) hx hb hts hin11 hown hK hP 0 rfl rfl 12 (Nat.le_of_ble_eq_true rfl) hw_0 (fun _ h9 => h9) rfl dX11_opens_12 ?_
  refine lv_bipush (v := 56) hx hb dX11_opens_15 bp_56 ?_
  refine lv_aload_n hx hb dX11_opens_17 rfl (lv_at hl 0 rfl) ?_
  refine va_get (D := (dC, dI)) (ci := 11) (v := .ref (ra 11)) (C := RX11) (T := TX11) (N := 61) hx hb hts hin11 hown hK hP 0 rfl rfl 12 (Nat.le_of_ble_eq_true rfl) hw_0 (fun _ h9 => h9) rfl dX11_opens_18 ?_
  refine lv_bipush (v := 56) hx hb dX11_opens_21 bp_56 ?_
  refine va_iald hx hb hK hP 1 1 rfl rfl (vp_in_nI (n := 56) (by decide) (by decide)) dX11_opens_23 ?_
  refine W.eq (g2 := F0 m 24 ls [.int (f2 56), .int 56, .ref (ra 11)]) rfl ?_
  refine lv_iload_n hx hb dX11_opens_24 rfl (lv_at hl 1 rfl) ?_
  refine va_mmax hx hb (by rw [hml]; exact hl.1.symm) hown hw_1 hw_2 hw_3 hw_4 (Nat.le_of_ble_eq_true rfl) (Nat.le_of_ble_eq_true rfl) (Nat.le_of_ble_eq_true rfl) (Nat.le_of_ble_eq_true rfl) dX11_opens_25 ?_
  refine lv_topi (fun z4 _ => ?_)
  refine va_iast hx hb hK hP hD hS 1 1 rfl rfl (vp_in_nI (n := 56) (by decide) (by decide)) dX11_opens_28 (fun H locs hPa hDa hS => ?_)
  clear hP hD
  have hP : va_P (dC, dI) vwCl [(m0, .inr (11, oX11 ra x0)), (ra 11, .inl (kI, 1019, .inl (upd f2 56 z4)))] H := hPa
  have hD : va_D A [(m0, .inr (11, oX11 ra x0)), (ra 11, .inl (kI, 1019, .inl (upd f2 56 z4)))] := hDa
  clear hPa hDa
  have hf6 : fI lNow hNow (upd f2 56 z4) := fI_u hf3 (k := 56) ((iv_t z4))
  generalize (upd f2 56 z4) = f5 at hP hD hf6
  have hP9 := hP
  have hD9 := hD
  exact W.vret hx hb hr (fun t ht hW => ⟨⟨(), rfl, trivial, f5, hf6, by rw [ht]; exact hP9, hD9⟩, hS.F ht⟩) hS.2.2 dX11_opens_29
def rm_s11_answered : Room := { frames := 0, cells := 0, slots := 0, locals := 0 }
set_option maxHeartbeats 4000000 in
set_option maxRecDepth 100000 in
theorem s11_answered (l : Launch) (dC : Nat → ClassId) (dI : Nat → Nat → Nat) (kB kI kJ kZ kC kS : ClassId) (sz : Nat) (m0 : Nat) (ra : Nat → Nat) (x0 : Nat → Int32) (q_pace : Nat → Int32) (q_now : Nat → Int32) (p0 : Int32) (hX : fI lX11 hX11 x0) (hq_now : fI lNow hNow q_now) (hp0 : iv 0 11 p0) : Met l yX11_answered wsX11_answered rm_s11_answered (va_Pc [.ref m0, .int p0] (fun U => U.heap.size = sz ∧ va_P (dC, dI) vwCl [(m0, .inr (11, oX11 ra x0)), (ra 5, .inl (kI, 24, .inl q_pace)), (ra 11, .inl (kI, 1019, .inl q_now))] U.heap ∧ kE dC dI kB kI kJ kZ kC kS U ∧ va_D (fun _ => True) [(m0, .inr (11, oX11 ra x0)), (ra 5, .inl (kI, 24, .inl q_pace)), (ra 11, .inl (kI, 1019, .inl q_now))])) (va_Qi (fun (r : Int32) (_ : Unit) => True) (fun _ t => ∃ (q_now' : Nat → Int32), fI lNow hNow q_now' ∧ va_P (dC, dI) vwCl [(m0, .inr (11, oX11 ra x0)), (ra 5, .inl (kI, 24, .inl q_pace)), (ra 11, .inl (kI, 1019, .inl q_now'))] t.heap ∧ va_D (va_A [(m0, .inr (11, oX11 ra x0)), (ra 5, .inl (kI, 24, .inl q_pace)), (ra 11, .inl (kI, 1019, .inl q_now))] sz) [(m0, .inr (11, oX11 ra x0)), (ra 5, .inl (kI, 24, .inl q_pace)), (ra 11, .inl (kI, 1019, .inl q_now'))]) (va_A [(m0, .inr (11, oX11 ra x0)), (ra 5, .inl (kI, 24, .inl q_pace)), (ra 11, .inl (kI, 1019, .inl q_now))] sz)) 0 0 (va_A [(m0, .inr (11, oX11 ra x0)), (ra 5, .inl (kI, 24, .inl q_pace)), (ra 11, .inl (kI, 1019, .inl q_now))] sz) := by
  refine Met.ofW (cc := cX11_answered) (maxL := 2) (ret := (some .int)) (by decide) rfl ?_
  intro p e s m args0 below meth c s₁ B hml hv
  obtain ⟨hargs, hsz, hP, hE, hD0⟩ := hv
  have hx := B.exec
  have hb := B.bytes
  have hr := B.returns
  have hts := atoms_spec (ws := wsX11_answered) B.pre
  have hown : s.vm.findClass RX11 = some m.cls := findClass_of_methodNamed B.named
  have hlocks := B.notSynchronized
  have hK := hE.1
  have hin11 : ∀ w ∈ wsX110, w ∈ wsX11_answered := fun _ h9 => List.mem_cons_of_mem _ (List.mem_append_right _ h9)
  have hw_0 := hts (.fieldLink RX11 60 "PathProberModel" "now" "[I") (List.mem_of_getElem? (i := 1) rfl)
  have hw_1 := hts (.fieldLink RX11 44 "PathProberModel" "pace" "[I") (List.mem_of_getElem? (i := 2) rfl)
  subst hsz
  have hD := hD0.self (sz := s.heap.size)
  generalize hAe : va_A [(m0, .inr (11, oX11 ra x0)), (ra 5, .inl (kI, 24, .inl q_pace)), (ra 11, .inl (kI, 1019, .inl q_now))] s.heap.size = A at hD ⊢
  have hA : ∀ q : Nat, s.heap.size ≤ q → A q := fun q h => by rw [← hAe]; exact Or.inr h
  have hS : va_S A s.heap s.heap [] := va_S.rf
  have hP : va_P (dC, dI) vwCl [(m0, .inr (11, oX11 ra x0)), (ra 5, .inl (kI, 24, .inl q_pace)), (ra 11, .inl (kI, 1019, .inl q_now))] s.heap := hP
  have hl := lv_entry ([.ref m0, .int p0]) (n := 2) (Nat.le_of_ble_eq_true rfl)
  have hla : entryFrame m args0 2 = entryFrame m ([.ref m0, .int p0] : List Value).toArray 2 := by rw [hargs]
  rw [hla, lg_entry_eq]
  generalize (lg_sl ([.ref m0, .int p0]) ++ List.replicate (2 - (lg_sl ([.ref m0, .int p0])).length) Slot.unset).toArray = ls at hl ⊢
  have hl : lv_has ls 2 [(0, .ref m0), (1, .int p0)] := hl
  refine lv_aload_n hx hb dX11_answered_0 rfl (lv_at hl 0 rfl) ?_
  refine va_get (D := (dC, dI)) (ci := 11) (v := .ref (ra 11)) (C := RX11) (T := TX11) (N := 61) hx hb hts hin11 hown hK hP 0 rfl rfl 12 (Nat.le_of_ble_eq_true rfl) hw_0 (fun _ h9 => h9) rfl dX11_answered_1 ?_
  refine lv_bipush (v := 12) hx hb dX11_answered_4 bp_12 ?_
  refine lv_iload_n hx hb dX11_answered_6 rfl (lv_at hl 1 rfl) ?_
  refine lv_iadd hx hb dX11_answered_7 ?_
  refine iv_top (a := 12) (b := 23) (iv_add ivk_12 hp0 (by decide) (by decide) (by decide) (by decide)) (fun z1 b2 => ?_)
  refine lv_aload_n hx hb dX11_answered_8 rfl (lv_at hl 0 rfl) ?_
  refine va_get (D := (dC, dI)) (ci := 11) (v := .ref (ra 11)) (C := RX11) (T := TX11) (N := 61) hx hb hts hin11 hown hK hP 0 rfl rfl 12 (Nat.le_of_ble_eq_true rfl) hw_0 (fun _ h9 => h9) rfl dX11_answered_9 ?_
  refine lv_bipush (v := 12) hx hb dX11_answered_12 bp_12 ?_
  refine lv_iload_n hx hb dX11_answered_14 rfl (lv_at hl 1 rfl) ?_
  refine lv_iadd hx hb dX11_answered_15 ?_
  refine iv_top (a := 12) (b := 23) (iv_add ivk_12 hp0 (by decide) (by decide) (by decide) (by decide)) (fun z3 b4 => ?_)
  refine va_iald hx hb hK hP 2 1 rfl rfl (iv_in b4 (by decide) (by decide)) dX11_answered_16 ?_
  refine lv_topi (fun z5 _ => ?_)
  refine lv_aload_n hx hb dX11_answered_17 rfl (lv_at hl 0 rfl) ?_
  refine va_get (D := (dC, dI)) (ci := 11) (v := .ref (ra 5)) (C := RX11) (T := TX11) (N := 61) hx hb hts hin11 hown hK hP 0 rfl rfl 6 (Nat.le_of_ble_eq_true rfl) hw_1 (fun _ h9 => h9) rfl dX11_answered_18 ?_
  refine lv_iload_n hx hb dX11_answered_21 rfl (lv_at hl 1 rfl) ?_
  refine va_iald hx hb hK hP 1 1 rfl rfl (iv_in hp0 (by decide) (by decide)) dX11_answered_22 ?_
  refine lv_topi (fun z6 _ => ?_)
  refine lv_iadd hx hb dX11_answered_23 ?_
  refine lv_topi (fun z7 _ => ?_)
  refine lv_sipush (v := 256) hx hb dX11_answered_24 (by decide) ?_
  refine lv_irem hx hb dX11_answered_27 (by decide) ?_
  refine lv_topi (fun z8 _ => ?_)
  refine va_iast hx hb hK hP hD hS 2 1 rfl rfl (iv_in b2 (by decide) (by decide)) dX11_answered_28 (fun H locs hPa hDa hS => ?_)
  clear hP hD
  have hP : va_P (dC, dI) vwCl [(m0, .inr (11, oX11 ra x0)), (ra 5, .inl (kI, 24, .inl q_pace)), (ra 11, .inl (kI, 1019, .inl (upd q_now z1.toNatClampNeg z8)))] H := hPa
  have hD : va_D A [(m0, .inr (11, oX11 ra x0)), (ra 5, .inl (kI, 24, .inl q_pace)), (ra 11, .inl (kI, 1019, .inl (upd q_now z1.toNatClampNeg z8)))] := hDa
  clear hPa hDa
  have hf10 : fI lNow hNow (upd q_now z1.toNatClampNeg z8) := fI_u hq_now (k := z1.toNatClampNeg) (now_po b2 (by decide) (by decide))
  generalize (upd q_now z1.toNatClampNeg z8) = f9 at hP hD hf10
  refine lv_aload_n hx hb dX11_answered_29 rfl (lv_at hl 0 rfl) ?_
  refine va_get (D := (dC, dI)) (ci := 11) (v := .ref (ra 11)) (C := RX11) (T := TX11) (N := 61) hx hb hts hin11 hown hK hP 0 rfl rfl 12 (Nat.le_of_ble_eq_true rfl) hw_0 (fun _ h9 => h9) rfl dX11_answered_30 ?_
  refine lv_bipush (v := 12) hx hb dX11_answered_33 bp_12 ?_
  refine lv_iload_n hx hb dX11_answered_35 rfl (lv_at hl 1 rfl) ?_
  refine lv_iadd hx hb dX11_answered_36 ?_
  refine iv_top (a := 12) (b := 23) (iv_add ivk_12 hp0 (by decide) (by decide) (by decide) (by decide)) (fun z11 b12 => ?_)
  refine va_iald hx hb hK hP 2 1 rfl rfl (iv_in b12 (by decide) (by decide)) dX11_answered_37 ?_
  refine lv_topi (fun z13 _ => ?_)
  have hP9 := hP
  have hD9 := hD
  exact W.iret (v := z13) hx hb hr (fun t ht hW => ⟨⟨z13, (), rfl, trivial, f9, hf10, by rw [ht]; exact hP9, hD9⟩, hS.F ht⟩) hS.2.2 dX11_answered_38
def rm_s11_isHop : Room := { frames := 1, cells := 0, slots := 0, locals := 22 }
set_option maxHeartbeats 4000000 in
set_option maxRecDepth 100000 in
theorem s11_isHop (l : Launch) (dC : Nat → ClassId) (dI : Nat → Nat → Nat) (kB kI kJ kZ kC kS : ClassId) (sz : Nat) (p0 : Int32) : Met l yX11_isHop wsX11_isHop rm_s11_isHop (va_Pc [.int p0] (fun U => U.heap.size = sz ∧ va_P (dC, dI) vwCl [] U.heap ∧ kE dC dI kB kI kJ kZ kC kS U ∧ va_D (fun _ => True) [])) (va_Qi (fun (r : Int32) (_ : Unit) => iv 0 1 r ∧ (r = 0 ∨ iv 1 10 p0)) (fun _ t => va_P (dC, dI) vwCl [] t.heap ∧ va_D (va_A [] sz) []) (va_A [] sz)) 0 0 (va_A [] sz) := by
  refine Met.ofW (cc := cX11_isHop) (maxL := 1) (ret := (some .boolean)) (by decide) rfl ?_
  intro p e s m args0 below meth c s₁ B hml hv
  obtain ⟨hargs, hsz, hP, hE, hD0⟩ := hv
  have hx := B.exec
  have hb := B.bytes
  have hr := B.returns
  have hts := atoms_spec (ws := wsX11_isHop) B.pre
  have hown : s.vm.findClass RX11 = some m.cls := findClass_of_methodNamed B.named
  have hlocks := B.notSynchronized
  have hK := hE.1
  subst hsz
  have hD := hD0.self (sz := s.heap.size)
  generalize hAe : va_A [] s.heap.size = A at hD ⊢
  have hA : ∀ q : Nat, s.heap.size ≤ q → A q := fun q h => by rw [← hAe]; exact Or.inr h
  have hS : va_S A s.heap s.heap [] := va_S.rf
  have hP : va_P (dC, dI) vwCl [] s.heap := hP
  have hl := lv_entry ([.int p0]) (n := 1) (Nat.le_of_ble_eq_true rfl)
  have hla : entryFrame m args0 1 = entryFrame m ([.int p0] : List Value).toArray 1 := by rw [hargs]
  rw [hla, lg_entry_eq]
  generalize (lg_sl ([.int p0]) ++ List.replicate (1 - (lg_sl ([.int p0])).length) Slot.unset).toArray = ls at hl ⊢
  have hl : lv_has ls 1 [(0, .int p0)] := hl
  refine lv_iload_n hx hb dX11_isHop_0 rfl (lv_at hl 0 rfl) ?_
  refine lv_iconst (v := 1) hx hb dX11_isHop_1 ic_1 ?_
  refine lv_bipush (v := 10) hx hb dX11_isHop_2 bp_10 ?_
  obtain ⟨hPc, hDc, hFc, hJn⟩ := cl_a (wc := []) (wr := []) hP hD hS hA [] [] rfl rfl (by decide +kernel)
  refine va_calli (va_runS (As := [.int p0, .int 1, .int 10]) (rest := []) ⟨hx, hb, hml, hown, hts⟩ (s11_isIn l dC dI kB kI kJ kZ kC kS s.heap.size p0 1 10) (va_cwS 3 hts gX11_isHop_X11_isIn rfl rfl rfl (by decide +kernel) ⟨Nat.le_of_ble_eq_true rfl, Nat.le_of_ble_eq_true rfl⟩) ⟨fun a U g mk q => by obtain ⟨q0, q1, qP, qE, qD⟩ := q; exact ⟨q0, q1, qP, kE_call qE, qD⟩, fun U hU hW => ⟨rfl, by rw [hU], by rw [hU]; exact hPc, kE_warm hW hE, hDc.weaken (fun _ _ _ _ => trivial)⟩⟩ rfl rfl hl.1 rfl (lv_room (Nat.le_of_ble_eq_true rfl)) dX11_isHop_4 ⟨Nat.le_of_ble_eq_true rfl, Nat.le_of_ble_eq_true rfl⟩) hS (fun q _ h => hFc q h) hFc (fun r1 u t H locs ht hvm w2 hB hz1 hk1 hS => ?_)
  obtain ⟨hP1, hD1⟩ := hB
  try dsimp only at w2
  obtain ⟨hPa, hDa⟩ := hJn (w1 := []) hk1 ht hP1 hD1
  clear hP hD hPc hDc hFc hJn hP1 hD1 hk1
  have hP : va_P (dC, dI) vwCl [] H := hPa
  have hD : va_D A [] := hDa
  clear hPa hDa
  refine W.widen (k := 0) (n := 0) (Nat.le_of_ble_eq_true rfl) (Nat.le_of_ble_eq_true rfl) ?_
  have hP9 := hP
  have hD9 := hD
  exact W.zret (v := r1) (ty := .boolean) hx hb hr (z_nar w2.1) (fun t ht hW => ⟨⟨r1, (), rfl, ⟨w2.1, (w2.2).imp_right (fun h => iv_w (in_iv h ivk_1 ivk_10) (by decide) (by decide))⟩, by rw [ht]; exact hP9, hD9⟩, hS.F ht⟩) hS.2.2 dX11_isHop_7
def rm_s11_isPort : Room := { frames := 1, cells := 0, slots := 0, locals := 22 }
set_option maxHeartbeats 4000000 in
set_option maxRecDepth 100000 in
theorem s11_isPort (l : Launch) (dC : Nat → ClassId) (dI : Nat → Nat → Nat) (kB kI kJ kZ kC kS : ClassId) (sz : Nat) (p0 : Int32) : Met l yX11_isPort wsX11_isPort rm_s11_isPort (va_Pc [.int p0] (fun U => U.heap.size = sz ∧ va_P (dC, dI) vwCl [] U.heap ∧ kE dC dI kB kI kJ kZ kC kS U ∧ va_D (fun _ => True) [])) (va_Qi (fun (r : Int32) (_ : Unit) => iv 0 1 r ∧ (r = 0 ∨ iv 0 31 p0)) (fun _ t => va_P (dC, dI) vwCl [] t.heap ∧ va_D (va_A [] sz) []) (va_A [] sz)) 0 0 (va_A [] sz) := by
  refine Met.ofW (cc := cX11_isPort) (maxL := 1) (ret := (some .boolean)) (by decide) rfl ?_
  intro p e s m args0 below meth c s₁ B hml hv
  obtain ⟨hargs, hsz, hP, hE, hD0⟩ := hv
  have hx := B.exec
  have hb := B.bytes
  have hr := B.returns
  have hts := atoms_spec (ws := wsX11_isPort) B.pre
  have hown : s.vm.findClass RX11 = some m.cls := findClass_of_methodNamed B.named
  have hlocks := B.notSynchronized
  have hK := hE.1
  subst hsz
  have hD := hD0.self (sz := s.heap.size)
  generalize hAe : va_A [] s.heap.size = A at hD ⊢
  have hA : ∀ q : Nat, s.heap.size ≤ q → A q := fun q h => by rw [← hAe]; exact Or.inr h
  have hS : va_S A s.heap s.heap [] := va_S.rf
  have hP : va_P (dC, dI) vwCl [] s.heap := hP
  have hl := lv_entry ([.int p0]) (n := 1) (Nat.le_of_ble_eq_true rfl)
  have hla : entryFrame m args0 1 = entryFrame m ([.int p0] : List Value).toArray 1 := by rw [hargs]
  rw [hla, lg_entry_eq]
  generalize (lg_sl ([.int p0]) ++ List.replicate (1 - (lg_sl ([.int p0])).length) Slot.unset).toArray = ls at hl ⊢
  have hl : lv_has ls 1 [(0, .int p0)] := hl
  refine lv_iload_n hx hb dX11_isPort_0 rfl (lv_at hl 0 rfl) ?_
  refine lv_iconst (v := 0) hx hb dX11_isPort_1 ic_0 ?_
  refine lv_bipush (v := 31) hx hb dX11_isPort_2 bp_31 ?_
  obtain ⟨hPc, hDc, hFc, hJn⟩ := cl_a (wc := []) (wr := []) hP hD hS hA [] [] rfl rfl (by decide +kernel)
  refine va_calli (va_runS (As := [.int p0, .int 0, .int 31]) (rest := []) ⟨hx, hb, hml, hown, hts⟩ (s11_isIn l dC dI kB kI kJ kZ kC kS s.heap.size p0 0 31) (va_cwS 3 hts gX11_isPort_X11_isIn rfl rfl rfl (by decide +kernel) ⟨Nat.le_of_ble_eq_true rfl, Nat.le_of_ble_eq_true rfl⟩) ⟨fun a U g mk q => by obtain ⟨q0, q1, qP, qE, qD⟩ := q; exact ⟨q0, q1, qP, kE_call qE, qD⟩, fun U hU hW => ⟨rfl, by rw [hU], by rw [hU]; exact hPc, kE_warm hW hE, hDc.weaken (fun _ _ _ _ => trivial)⟩⟩ rfl rfl hl.1 rfl (lv_room (Nat.le_of_ble_eq_true rfl)) dX11_isPort_4 ⟨Nat.le_of_ble_eq_true rfl, Nat.le_of_ble_eq_true rfl⟩) hS (fun q _ h => hFc q h) hFc (fun r1 u t H locs ht hvm w2 hB hz1 hk1 hS => ?_)
  obtain ⟨hP1, hD1⟩ := hB
  try dsimp only at w2
  obtain ⟨hPa, hDa⟩ := hJn (w1 := []) hk1 ht hP1 hD1
  clear hP hD hPc hDc hFc hJn hP1 hD1 hk1
  have hP : va_P (dC, dI) vwCl [] H := hPa
  have hD : va_D A [] := hDa
  clear hPa hDa
  refine W.widen (k := 0) (n := 0) (Nat.le_of_ble_eq_true rfl) (Nat.le_of_ble_eq_true rfl) ?_
  have hP9 := hP
  have hD9 := hD
  exact W.zret (v := r1) (ty := .boolean) hx hb hr (z_nar w2.1) (fun t ht hW => ⟨⟨r1, (), rfl, ⟨w2.1, (w2.2).imp_right (fun h => iv_w (in_iv h ivk_0 ivk_31) (by decide) (by decide))⟩, by rw [ht]; exact hP9, hD9⟩, hS.F ht⟩) hS.2.2 dX11_isPort_7
def rm_s11_isGoal : Room := { frames := 1, cells := 0, slots := 0, locals := 22 }
set_option maxHeartbeats 4000000 in
set_option maxRecDepth 100000 in
theorem s11_isGoal (l : Launch) (dC : Nat → ClassId) (dI : Nat → Nat → Nat) (kB kI kJ kZ kC kS : ClassId) (sz : Nat) (m0 : Nat) (ra : Nat → Nat) (x0 : Nat → Int32) (q_told : Nat → Int32) (p0 : Int32) (hX : fI lX11 hX11 x0) (hq_told : fI lTold hTold q_told) : Met l yX11_isGoal wsX11_isGoal rm_s11_isGoal (va_Pc [.ref m0, .int p0] (fun U => U.heap.size = sz ∧ va_P (dC, dI) vwCl [(m0, .inr (11, oX11 ra x0)), (ra 2, .inl (kI, 8, .inl q_told))] U.heap ∧ kE dC dI kB kI kJ kZ kC kS U ∧ va_D (fun _ => True) [(m0, .inr (11, oX11 ra x0)), (ra 2, .inl (kI, 8, .inl q_told))])) (va_Qi (fun (r : Int32) (_ : Unit) => iv 0 1 r ∧ (r = 0 ∨ iv 0 2 p0)) (fun _ t => va_P (dC, dI) vwCl [(m0, .inr (11, oX11 ra x0)), (ra 2, .inl (kI, 8, .inl q_told))] t.heap ∧ va_D (va_A [(m0, .inr (11, oX11 ra x0)), (ra 2, .inl (kI, 8, .inl q_told))] sz) [(m0, .inr (11, oX11 ra x0)), (ra 2, .inl (kI, 8, .inl q_told))]) (va_A [(m0, .inr (11, oX11 ra x0)), (ra 2, .inl (kI, 8, .inl q_told))] sz)) 0 0 (va_A [(m0, .inr (11, oX11 ra x0)), (ra 2, .inl (kI, 8, .inl q_told))] sz) := by
  refine Met.ofW (cc := cX11_isGoal) (maxL := 2) (ret := (some .boolean)) (by decide) rfl ?_
  intro p e s m args0 below meth c s₁ B hml hv
  obtain ⟨hargs, hsz, hP, hE, hD0⟩ := hv
  have hx := B.exec
  have hb := B.bytes
  have hr := B.returns
  have hts := atoms_spec (ws := wsX11_isGoal) B.pre
  have hown : s.vm.findClass RX11 = some m.cls := findClass_of_methodNamed B.named
  have hlocks := B.notSynchronized
  have hK := hE.1
  have hin11 : ∀ w ∈ wsX110, w ∈ wsX11_isGoal := fun _ h9 => List.mem_cons_of_mem _ (List.mem_append_right _ h9)
  subst hsz
  have hD := hD0.self (sz := s.heap.size)
  generalize hAe : va_A [(m0, .inr (11, oX11 ra x0)), (ra 2, .inl (kI, 8, .inl q_told))] s.heap.size = A at hD ⊢
  have hA : ∀ q : Nat, s.heap.size ≤ q → A q := fun q h => by rw [← hAe]; exact Or.inr h
  have hS : va_S A s.heap s.heap [] := va_S.rf
  have hP : va_P (dC, dI) vwCl [(m0, .inr (11, oX11 ra x0)), (ra 2, .inl (kI, 8, .inl q_told))] s.heap := hP
  have hl := lv_entry ([.ref m0, .int p0]) (n := 2) (Nat.le_of_ble_eq_true rfl)
  have hla : entryFrame m args0 2 = entryFrame m ([.ref m0, .int p0] : List Value).toArray 2 := by rw [hargs]
  rw [hla, lg_entry_eq]
  generalize (lg_sl ([.ref m0, .int p0]) ++ List.replicate (2 - (lg_sl ([.ref m0, .int p0])).length) Slot.unset).toArray = ls at hl ⊢
  have hl : lv_has ls 2 [(0, .ref m0), (1, .int p0)] := hl
  refine lv_iload_n hx hb dX11_isGoal_0 rfl (lv_at hl 1 rfl) ?_
  refine lv_iconst (v := 0) hx hb dX11_isGoal_1 ic_0 ?_
  refine lv_aload_n hx hb dX11_isGoal_2 rfl (lv_at hl 0 rfl) ?_
  obtain ⟨hPc, hDc, hFc, hJn⟩ := cl_a (wc := [(m0, .inr (11, oX11 ra x0)), (ra 2, .inl (kI, 8, .inl q_told))]) (wr := []) hP hD hS hA [0, 1] [] rfl rfl (by decide +kernel)
  refine va_calli (va_runV (As := []) (rest := [.int 0, .int p0]) ⟨hx, hb, hml, hown, hts⟩ (s11_goals l dC dI kB kI kJ kZ kC kS s.heap.size m0 ra x0 q_told (hX) (hq_told)) (cwV 0 hts gX11_isGoal_X11_goals rfl rfl rfl (by decide +kernel) ⟨Nat.le_of_ble_eq_true rfl, Nat.le_of_ble_eq_true rfl⟩) ⟨fun a U g mk q => by obtain ⟨q0, q1, qP, qE, qD⟩ := q; exact ⟨q0, q1, qP, kE_call qE, qD⟩, va_recv hK hP (ci := 11) (q0 := 0) rfl rfl, fun U hU hW => ⟨rfl, by rw [hU], by rw [hU]; exact hPc, kE_warm hW hE, hDc.weaken (fun _ _ _ _ => trivial)⟩⟩ rfl rfl hl.1 rfl (lv_room (Nat.le_of_ble_eq_true rfl)) dX11_isGoal_3 ⟨Nat.le_of_ble_eq_true rfl, Nat.le_of_ble_eq_true rfl⟩) hS (fun q _ h => hFc q h) hFc (fun r1 u t H locs ht hvm w2 hB hz1 hk1 hS => ?_)
  obtain ⟨hP1, hD1⟩ := hB
  try dsimp only at w2
  obtain ⟨hPa, hDa⟩ := hJn (w1 := [(m0, .inr (11, oX11 ra x0)), (ra 2, .inl (kI, 8, .inl q_told))]) hk1 ht hP1 hD1
  clear hP hD hPc hDc hFc hJn hP1 hD1 hk1
  have hP : va_P (dC, dI) vwCl [(m0, .inr (11, oX11 ra x0)), (ra 2, .inl (kI, 8, .inl q_told))] H := hPa
  have hD : va_D A [(m0, .inr (11, oX11 ra x0)), (ra 2, .inl (kI, 8, .inl q_told))] := hDa
  clear hPa hDa
  refine W.widen (k := 0) (n := 0) (Nat.le_of_ble_eq_true rfl) (Nat.le_of_ble_eq_true rfl) ?_
  subst w2
  refine lv_iconst (v := 1) hx hb dX11_isGoal_6 ic_1 ?_
  refine lv_isub hx hb dX11_isGoal_7 ?_
  refine iv_top (a := (-1)) (b := 2) (iv_sub (hq_told 2 : iv 0 3 (q_told 2)) ivk_1 (by decide) (by decide) (by decide) (by decide)) (fun z3 b4 => ?_)
  obtain ⟨hPc, hDc, hFc, hJn⟩ := cl_a (wc := []) (wr := [(m0, .inr (11, oX11 ra x0)), (ra 2, .inl (kI, 8, .inl q_told))]) hP hD hS hA [] [0, 1] rfl rfl (by decide +kernel)
  refine va_calli (va_runS (As := [.int p0, .int 0, .int z3]) (rest := []) ⟨hx, hb, hml, hown, hts⟩ (s11_isIn l dC dI kB kI kJ kZ kC kS H.size p0 0 z3) (va_cwS 3 hts gX11_isGoal_X11_isIn rfl rfl rfl (by decide +kernel) ⟨Nat.le_of_ble_eq_true rfl, Nat.le_of_ble_eq_true rfl⟩) ⟨fun a U g mk q => by obtain ⟨q0, q1, qP, qE, qD⟩ := q; exact ⟨q0, q1, qP, kE_call qE, qD⟩, fun U hU hW => ⟨rfl, by rw [hU], by rw [hU]; exact hPc, kE_warm hW hE, hDc.weaken (fun _ _ _ _ => trivial)⟩⟩ rfl rfl hl.1 rfl (lv_room (Nat.le_of_ble_eq_true rfl)) dX11_isGoal_8 ⟨Nat.le_of_ble_eq_true rfl, Nat.le_of_ble_eq_true rfl⟩) hS (fun q _ h => hFc q h) hFc (fun r5 u t H locs ht hvm w6 hB hz1 hk1 hS => ?_)
  obtain ⟨hP1, hD1⟩ := hB
  try dsimp only at w6
  obtain ⟨hPa, hDa⟩ := hJn (w1 := []) hk1 ht hP1 hD1
  clear hP hD hPc hDc hFc hJn hP1 hD1 hk1
  have hP : va_P (dC, dI) vwCl [(m0, .inr (11, oX11 ra x0)), (ra 2, .inl (kI, 8, .inl q_told))] H := hPa
  have hD : va_D A [(m0, .inr (11, oX11 ra x0)), (ra 2, .inl (kI, 8, .inl q_told))] := hDa
  clear hPa hDa
  refine W.widen (k := 0) (n := 0) (Nat.le_of_ble_eq_true rfl) (Nat.le_of_ble_eq_true rfl) ?_
  have hP9 := hP
  have hD9 := hD
  exact W.zret (v := r5) (ty := .boolean) hx hb hr (z_nar w6.1) (fun t ht hW => ⟨⟨r5, (), rfl, ⟨w6.1, (w6.2).imp_right (fun h => iv_w (in_iv h ivk_0 b4) (by decide) (by decide))⟩, by rw [ht]; exact hP9, hD9⟩, hS.F ht⟩) hS.2.2 dX11_isGoal_11
