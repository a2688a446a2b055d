def rm_e4_begin_1 : Room := { frames := 0, cells := 0, slots := 0, locals := 0 }
set_option maxHeartbeats 4000000 in
set_option maxRecDepth 100000 in
theorem e4_begin_1 (l : Launch) (dC : Nat → ClassId) (dI : Nat → Nat → Nat) (kB kI kJ kZ kC kS : ClassId) (sz : Nat) (o : Nat) (o_met : Nat) (o_enough : Nat) (x_o : Nat → Int32) (f1 : Nat → Int64) : Met l yX4_begin wsX4_begin rm_e4_begin_1 (va_Pc [.ref o, .int 1] (fun U => U.heap.size = sz ∧ va_P (dC, dI) vwCl [(o, .inr (4, oX4 o_met o_enough x_o)), (o_met, .inl (kJ, 23, .inr (.inl f1)))] U.heap ∧ kE dC dI kB kI kJ kZ kC kS U ∧ va_D (fun _ => True) [(o, .inr (4, oX4 o_met o_enough x_o)), (o_met, .inl (kJ, 23, .inr (.inl f1)))])) (va_Qv (fun (_ : Unit) => True) (fun _ t => ∃ (g1 : Nat → Int64), g1 0 = kv1 0 0 ∧ g1 1 = kv1 0 1 ∧ va_P (dC, dI) vwCl [(o, .inr (4, oX4 o_met o_enough x_o)), (o_met, .inl (kJ, 23, .inr (.inl g1)))] t.heap ∧ va_D (va_A [(o, .inr (4, oX4 o_met o_enough x_o)), (o_met, .inl (kJ, 23, .inr (.inl f1)))] sz) [(o, .inr (4, oX4 o_met o_enough x_o)), (o_met, .inl (kJ, 23, .inr (.inl g1)))]) (va_A [(o, .inr (4, oX4 o_met o_enough x_o)), (o_met, .inl (kJ, 23, .inr (.inl f1)))] sz)) 0 0 (va_A [(o, .inr (4, oX4 o_met o_enough x_o)), (o_met, .inl (kJ, 23, .inr (.inl f1)))] sz) := by
  refine Met.ofW (cc := cX4_begin) (maxL := 3) (ret := none) (by decide) rfl ?_
  intro p e s m args0 below meth c s₁ B hml hv
  obtain ⟨hargs, hsz, hP, hE, hD0⟩ := hv
  have hx := B.exec
  have hb := B.bytes
  have hr := B.returns
  have hts := atoms_spec (ws := wsX4_begin) B.pre
  have hown : s.vm.findClass RX4 = some m.cls := findClass_of_methodNamed B.named
  have hlocks := B.notSynchronized
  have hK := hE.1
  have hin4 : ∀ w ∈ wsX40, w ∈ wsX4_begin := fun _ h9 => List.mem_cons_of_mem _ (List.mem_append_right _ h9)
  subst hsz
  have hD := hD0.self (sz := s.heap.size)
  generalize hAe : va_A [(o, .inr (4, oX4 o_met o_enough x_o)), (o_met, .inl (kJ, 23, .inr (.inl f1)))] s.heap.size = A at hD ⊢
  have hA : ∀ q : Nat, s.heap.size ≤ q → A q := fun q h => by rw [← hAe]; exact Or.inr h
  have hS : va_S A s.heap s.heap [] := va_S.rf
  have hP : va_P (dC, dI) vwCl [(o, .inr (4, oX4 o_met o_enough x_o)), (o_met, .inl (kJ, 23, .inr (.inl f1)))] s.heap := hP
  have hl := lv_entry ([.ref o, .int 1]) (n := 3) (Nat.le_of_ble_eq_true rfl)
  have hla : entryFrame m args0 3 = entryFrame m ([.ref o, .int 1] : List Value).toArray 3 := by rw [hargs]
  rw [hla, lg_entry_eq]
  generalize (lg_sl ([.ref o, .int 1]) ++ List.replicate (3 - (lg_sl ([.ref o, .int 1])).length) Slot.unset).toArray = ls at hl ⊢
  have hl : lv_has ls 3 [(0, .ref o), (1, .int 1)] := hl
  refine lv_aload_n hx hb dX4_begin_0 rfl (lv_at hl 0 rfl) ?_
  refine va_get (D := (dC, dI)) (ci := 4) (v := .ref o_met) (C := RX4) (T := TX4) (N := 3) hx hb hts hin4 hown hK hP 0 rfl rfl 0 (by decide) (hts (.fieldLink RX4 9 "PathProber$Odds" "met" "[J") (List.mem_of_getElem? (i := 1) (by decide +kernel))) (fun _ h9 => h9) rfl dX4_begin_1 ?_
  refine lv_iconst (v := 0) hx hb dX4_begin_4 (by decide) ?_
  refine lv_ldc2 hx hb hown (hts (.constantLong RX4 23 (1000000000000)) (List.mem_of_getElem? (i := 2) (by decide +kernel))) dX4_begin_5 ?_
  refine va_last hx hb hK hP hD hS 1 2 rfl rfl (vp_in_nI (n := 0) (by decide) (by decide)) dX4_begin_8 (fun H locs hP hD hS => ?_)
  have hP : va_P (dC, dI) vwCl [(o, .inr (4, oX4 o_met o_enough x_o)), (o_met, .inl (kJ, 23, .inr (.inl (vp_updL f1 0 1000000000000))))] H := hP
  have hD : va_D A [(o, .inr (4, oX4 o_met o_enough x_o)), (o_met, .inl (kJ, 23, .inr (.inl (vp_updL f1 0 1000000000000))))] := hD
  refine lv_iconst (v := 1) hx hb dX4_begin_9 (by decide) ?_
  refine lv_istore_n (lv' := [(2, .int 1), (0, .ref o), (1, .int 1)]) hx hb dX4_begin_10 rfl hl (by decide) rfl (fun ls hl => ?_)
  refine lv_iload_n hx hb dX4_begin_11 rfl (lv_at hl 0 rfl) ?_
  refine lv_iload_n hx hb dX4_begin_12 rfl (lv_at hl 2 rfl) ?_
  refine lv_icmp_gt (tgt := 29) hx hb dX4_begin_13 (by decide) (fun c9 => absurd c9 (by decide)) (fun _ => ?_)
  refine lv_aload_n hx hb dX4_begin_16 rfl (lv_at hl 1 rfl) ?_
  refine va_get (D := (dC, dI)) (ci := 4) (v := .ref o_met) (C := RX4) (T := TX4) (N := 3) hx hb hts hin4 hown hK hP 0 rfl rfl 0 (by decide) (hts (.fieldLink RX4 9 "PathProber$Odds" "met" "[J") (List.mem_of_getElem? (i := 1) (by decide +kernel))) (fun _ h9 => h9) rfl dX4_begin_17 ?_
  refine lv_iload_n hx hb dX4_begin_20 rfl (lv_at hl 0 rfl) ?_
  refine lv_lconst (v := 0) hx hb dX4_begin_21 (by decide) ?_
  refine va_last hx hb hK hP hD hS 1 2 rfl rfl (vp_in_nI (n := 1) (by decide) (by decide)) dX4_begin_22 (fun H locs hP hD hS => ?_)
  have hP : va_P (dC, dI) vwCl [(o, .inr (4, oX4 o_met o_enough x_o)), (o_met, .inl (kJ, 23, .inr (.inl (vp_updL (vp_updL f1 0 1000000000000) 1 0))))] H := hP
  have hD : va_D A [(o, .inr (4, oX4 o_met o_enough x_o)), (o_met, .inl (kJ, 23, .inr (.inl (vp_updL (vp_updL f1 0 1000000000000) 1 0))))] := hD
  refine lv_iinc (v := 2) (lv' := [(2, .int 2), (0, .ref o), (1, .int 1)]) hx hb dX4_begin_23 hl (k := 0) rfl (by decide) (by decide) rfl (fun ls hl => ?_)
  refine lv_goto (tgt := 11) hx hb dX4_begin_26 (by decide) ?_
  refine lv_iload_n hx hb dX4_begin_11 rfl (lv_at hl 0 rfl) ?_
  refine lv_iload_n hx hb dX4_begin_12 rfl (lv_at hl 2 rfl) ?_
  refine lv_icmp_gt (tgt := 29) hx hb dX4_begin_13 (by decide) (fun _ => ?_) (fun c9 => absurd (by decide) c9)
  have hP9 := hP.sub (ws' := [(o, .inr (4, oX4 o_met o_enough x_o)), (o_met, .inl (kJ, 23, .inr (.inl (vp_updL (vp_updL f1 0 1000000000000) 1 0))))]) [0, 1] rfl
  have hD9 := hD.sub (ws' := [(o, .inr (4, oX4 o_met o_enough x_o)), (o_met, .inl (kJ, 23, .inr (.inl (vp_updL (vp_updL f1 0 1000000000000) 1 0))))]) [0, 1] (by decide) rfl
  exact W.vret hx hb hr (fun t ht hW => ⟨⟨(), rfl, trivial, vp_updL (vp_updL f1 0 1000000000000) 1 0, rfl, rfl, by rw [ht]; exact hP9, hD9⟩, hS.F ht⟩) hS.2.2 dX4_begin_29
def rm_e4_sendNext_1 : Room := { frames := 0, cells := 0, slots := 0, locals := 0 }
set_option maxHeartbeats 4000000 in
set_option maxRecDepth 100000 in
theorem e4_sendNext_1 (l : Launch) (dC : Nat → ClassId) (dI : Nat → Nat → Nat) (kB kI kJ kZ kC kS : ClassId) (sz : Nat) (o : Nat) (o_met : Nat) (o_enough : Nat) (x_o : Nat → Int32) (f1 : Nat → Int64) : Met l yX4_sendNext wsX4_sendNext rm_e4_sendNext_1 (va_Pc [.ref o, .int 1] (fun U => U.heap.size = sz ∧ va_P (dC, dI) vwCl [(o, .inr (4, oX4 o_met o_enough x_o)), (o_met, .inl (kJ, 23, .inr (.inl f1)))] U.heap ∧ kE dC dI kB kI kJ kZ kC kS U ∧ va_D (fun _ => True) [(o, .inr (4, oX4 o_met o_enough x_o)), (o_met, .inl (kJ, 23, .inr (.inl f1)))])) (va_Qv (fun (_ : Unit) => True) (fun _ t => ∃ (g1 : Nat → Int64), g1 0 = f1 0 * 0 / 1 ∧ g1 1 = f1 1 + (f1 0 - f1 0 * 0 / 1) ∧ va_P (dC, dI) vwCl [(o, .inr (4, oX4 o_met o_enough x_o)), (o_met, .inl (kJ, 23, .inr (.inl g1)))] t.heap ∧ va_D (va_A [(o, .inr (4, oX4 o_met o_enough x_o)), (o_met, .inl (kJ, 23, .inr (.inl f1)))] sz) [(o, .inr (4, oX4 o_met o_enough x_o)), (o_met, .inl (kJ, 23, .inr (.inl g1)))]) (va_A [(o, .inr (4, oX4 o_met o_enough x_o)), (o_met, .inl (kJ, 23, .inr (.inl f1)))] sz)) 0 0 (va_A [(o, .inr (4, oX4 o_met o_enough x_o)), (o_met, .inl (kJ, 23, .inr (.inl f1)))] sz) := by
  refine Met.ofW (cc := cX4_sendNext) (maxL := 5) (ret := none) (by decide) rfl ?_
  intro p e s m args0 below meth c s₁ B hml hv
  obtain ⟨hargs, hsz, hP, hE, hD0⟩ := hv
  have hx := B.exec
  have hb := B.bytes
  have hr := B.returns
  have hts := atoms_spec (ws := wsX4_sendNext) B.pre
  have hown : s.vm.findClass RX4 = some m.cls := findClass_of_methodNamed B.named
  have hlocks := B.notSynchronized
  have hK := hE.1
  have hin4 : ∀ w ∈ wsX40, w ∈ wsX4_sendNext := fun _ h9 => List.mem_cons_of_mem _ (List.mem_append_right _ h9)
  subst hsz
  have hD := hD0.self (sz := s.heap.size)
  generalize hAe : va_A [(o, .inr (4, oX4 o_met o_enough x_o)), (o_met, .inl (kJ, 23, .inr (.inl f1)))] s.heap.size = A at hD ⊢
  have hA : ∀ q : Nat, s.heap.size ≤ q → A q := fun q h => by rw [← hAe]; exact Or.inr h
  have hS : va_S A s.heap s.heap [] := va_S.rf
  have hP : va_P (dC, dI) vwCl [(o, .inr (4, oX4 o_met o_enough x_o)), (o_met, .inl (kJ, 23, .inr (.inl f1)))] s.heap := hP
  have hl := lv_entry ([.ref o, .int 1]) (n := 5) (Nat.le_of_ble_eq_true rfl)
  have hla : entryFrame m args0 5 = entryFrame m ([.ref o, .int 1] : List Value).toArray 5 := by rw [hargs]
  rw [hla, lg_entry_eq]
  generalize (lg_sl ([.ref o, .int 1]) ++ List.replicate (5 - (lg_sl ([.ref o, .int 1])).length) Slot.unset).toArray = ls at hl ⊢
  have hl : lv_has ls 5 [(0, .ref o), (1, .int 1)] := hl
  refine lv_iload_n hx hb dX4_sendNext_0 rfl (lv_at hl 1 rfl) ?_
  refine lv_iconst (v := 1) hx hb dX4_sendNext_1 (by decide) ?_
  refine lv_icmp_lt (tgt := 14) hx hb dX4_sendNext_2 (by decide) (fun c9 => absurd c9 (by decide)) (fun _ => ?_)
  refine lv_iload_n hx hb dX4_sendNext_5 rfl (lv_at hl 1 rfl) ?_
  refine lv_aload_n hx hb dX4_sendNext_6 rfl (lv_at hl 0 rfl) ?_
  refine va_get (D := (dC, dI)) (ci := 4) (v := .ref o_met) (C := RX4) (T := TX4) (N := 3) hx hb hts hin4 hown hK hP 0 rfl rfl 0 (by decide) (hts (.fieldLink RX4 9 "PathProber$Odds" "met" "[J") (List.mem_of_getElem? (i := 1) (by decide +kernel))) (fun _ h9 => h9) rfl dX4_sendNext_7 ?_
  refine va_alen (v := 23) hx hb hK hP 1 2 rfl rfl rfl dX4_sendNext_10 ?_
  refine lv_icmp_lt (tgt := 15) hx hb dX4_sendNext_11 (by decide) (fun _ => ?_) (fun c9 => absurd (by decide) c9)
  refine lv_iload_n hx hb dX4_sendNext_15 rfl (lv_at hl 1 rfl) ?_
  refine lv_iconst (v := 1) hx hb dX4_sendNext_16 (by decide) ?_
  refine lv_isub hx hb dX4_sendNext_17 ?_
  refine lv_topi (fun z1 e2 => ?_)
  obtain rfl : z1 = (0 : Int32) := e2.trans (by decide)
  refine lv_istore_n (lv' := [(2, .int 0), (0, .ref o), (1, .int 1)]) hx hb dX4_sendNext_18 rfl hl (by decide) rfl (fun ls hl => ?_)
  refine lv_iload_n hx hb dX4_sendNext_19 rfl (lv_at hl 0 rfl) ?_
  refine lv_if_lt (tgt := 68) hx hb dX4_sendNext_20 (by decide) (fun c9 => absurd c9 (by decide)) (fun _ => ?_)
  refine lv_aload_n hx hb dX4_sendNext_23 rfl (lv_at hl 1 rfl) ?_
  refine va_get (D := (dC, dI)) (ci := 4) (v := .ref o_met) (C := RX4) (T := TX4) (N := 3) hx hb hts hin4 hown hK hP 0 rfl rfl 0 (by decide) (hts (.fieldLink RX4 9 "PathProber$Odds" "met" "[J") (List.mem_of_getElem? (i := 1) (by decide +kernel))) (fun _ h9 => h9) rfl dX4_sendNext_24 ?_
  refine lv_iload_n hx hb dX4_sendNext_27 rfl (lv_at hl 0 rfl) ?_
  refine va_lald hx hb hK hP 1 2 rfl rfl (vp_in_nI (n := 0) (by decide) (by decide)) dX4_sendNext_28 ?_
  refine lv_topl (fun z3 e4 => ?_)
  obtain rfl : z3 = (f1 0 : Int64) := e4
  refine lv_iload_n hx hb dX4_sendNext_29 rfl (lv_at hl 0 rfl) ?_
  refine lv_i2l (v := 0) hx hb dX4_sendNext_30 (by decide) ?_
  refine lv_lmul hx hb dX4_sendNext_31 ?_
  refine lv_iload_n hx hb dX4_sendNext_32 rfl (lv_at hl 2 rfl) ?_
  refine lv_i2l (v := 1) hx hb dX4_sendNext_33 (by decide) ?_
  refine lv_ldiv hx hb dX4_sendNext_34 (by decide) ?_
  refine lv_lstore_n (lv' := [(3, .long (((f1 0) * 0) / 1)), (2, .int 0), (0, .ref o), (1, .int 1)]) hx hb dX4_sendNext_35 rfl hl (by decide) rfl (fun ls hl => ?_)
  refine lv_aload_n hx hb dX4_sendNext_36 rfl (lv_at hl 2 rfl) ?_
  refine va_get (D := (dC, dI)) (ci := 4) (v := .ref o_met) (C := RX4) (T := TX4) (N := 3) hx hb hts hin4 hown hK hP 0 rfl rfl 0 (by decide) (hts (.fieldLink RX4 9 "PathProber$Odds" "met" "[J") (List.mem_of_getElem? (i := 1) (by decide +kernel))) (fun _ h9 => h9) rfl dX4_sendNext_37 ?_
  refine lv_iload_n hx hb dX4_sendNext_40 rfl (lv_at hl 1 rfl) ?_
  refine lv_iconst (v := 1) hx hb dX4_sendNext_41 (by decide) ?_
  refine lv_iadd hx hb dX4_sendNext_42 ?_
  refine lv_topi (fun z5 e6 => ?_)
  obtain rfl : z5 = (1 : Int32) := e6.trans (by decide)
  refine lv_dup2_11 hx hb dX4_sendNext_43 rfl rfl ?_
  refine va_lald hx hb hK hP 1 2 rfl rfl (vp_in_nI (n := 1) (by decide) (by decide)) dX4_sendNext_44 ?_
  refine lv_topl (fun z7 e8 => ?_)
  obtain rfl : z7 = (f1 1 : Int64) := e8
  refine lv_aload_n hx hb dX4_sendNext_45 rfl (lv_at hl 2 rfl) ?_
  refine va_get (D := (dC, dI)) (ci := 4) (v := .ref o_met) (C := RX4) (T := TX4) (N := 3) hx hb hts hin4 hown hK hP 0 rfl rfl 0 (by decide) (hts (.fieldLink RX4 9 "PathProber$Odds" "met" "[J") (List.mem_of_getElem? (i := 1) (by decide +kernel))) (fun _ h9 => h9) rfl dX4_sendNext_46 ?_
  refine lv_iload_n hx hb dX4_sendNext_49 rfl (lv_at hl 1 rfl) ?_
  refine va_lald hx hb hK hP 1 2 rfl rfl (vp_in_nI (n := 0) (by decide) (by decide)) dX4_sendNext_50 ?_
  refine lv_topl (fun z9 e10 => ?_)
  obtain rfl : z9 = (f1 0 : Int64) := e10
  refine lv_lload_n hx hb dX4_sendNext_51 rfl (lv_at hl 0 rfl) ?_
  refine lv_lsub hx hb dX4_sendNext_52 ?_
  refine lv_ladd hx hb dX4_sendNext_53 ?_
  refine va_last hx hb hK hP hD hS 1 2 rfl rfl (vp_in_nI (n := 1) (by decide) (by decide)) dX4_sendNext_54 (fun H locs hP hD hS => ?_)
  have hP : va_P (dC, dI) vwCl [(o, .inr (4, oX4 o_met o_enough x_o)), (o_met, .inl (kJ, 23, .inr (.inl (vp_updL f1 1 ((f1 1) + ((f1 0) - (((f1 0) * 0) / 1)))))))] H := hP
  have hD : va_D A [(o, .inr (4, oX4 o_met o_enough x_o)), (o_met, .inl (kJ, 23, .inr (.inl (vp_updL f1 1 ((f1 1) + ((f1 0) - (((f1 0) * 0) / 1)))))))] := hD
  refine lv_aload_n hx hb dX4_sendNext_55 rfl (lv_at hl 2 rfl) ?_
  refine va_get (D := (dC, dI)) (ci := 4) (v := .ref o_met) (C := RX4) (T := TX4) (N := 3) hx hb hts hin4 hown hK hP 0 rfl rfl 0 (by decide) (hts (.fieldLink RX4 9 "PathProber$Odds" "met" "[J") (List.mem_of_getElem? (i := 1) (by decide +kernel))) (fun _ h9 => h9) rfl dX4_sendNext_56 ?_
  refine lv_iload_n hx hb dX4_sendNext_59 rfl (lv_at hl 1 rfl) ?_
  refine lv_lload_n hx hb dX4_sendNext_60 rfl (lv_at hl 0 rfl) ?_
  refine va_last hx hb hK hP hD hS 1 2 rfl rfl (vp_in_nI (n := 0) (by decide) (by decide)) dX4_sendNext_61 (fun H locs hP hD hS => ?_)
  have hP : va_P (dC, dI) vwCl [(o, .inr (4, oX4 o_met o_enough x_o)), (o_met, .inl (kJ, 23, .inr (.inl (vp_updL (vp_updL f1 1 ((f1 1) + ((f1 0) - (((f1 0) * 0) / 1)))) 0 (((f1 0) * 0) / 1)))))] H := hP
  have hD : va_D A [(o, .inr (4, oX4 o_met o_enough x_o)), (o_met, .inl (kJ, 23, .inr (.inl (vp_updL (vp_updL f1 1 ((f1 1) + ((f1 0) - (((f1 0) * 0) / 1)))) 0 (((f1 0) * 0) / 1)))))] := hD
  refine lv_iinc (v := (-1)) (lv' := [(2, .int (-1)), (3, .long (((f1 0) * 0) / 1)), (0, .ref o), (1, .int 1)]) hx hb dX4_sendNext_62 hl (k := 1) rfl (by decide) (by decide) rfl (fun ls hl => ?_)
  refine lv_goto (tgt := 19) hx hb dX4_sendNext_65 (by decide) ?_
  refine lv_iload_n hx hb dX4_sendNext_19 rfl (lv_at hl 0 rfl) ?_
  refine lv_if_lt (tgt := 68) hx hb dX4_sendNext_20 (by decide) (fun _ => ?_) (fun c9 => absurd (by decide) c9)
  have hP9 := hP.sub (ws' := [(o, .inr (4, oX4 o_met o_enough x_o)), (o_met, .inl (kJ, 23, .inr (.inl (vp_updL (vp_updL f1 1 ((f1 1) + ((f1 0) - (((f1 0) * 0) / 1)))) 0 (((f1 0) * 0) / 1)))))]) [0, 1] rfl
  have hD9 := hD.sub (ws' := [(o, .inr (4, oX4 o_met o_enough x_o)), (o_met, .inl (kJ, 23, .inr (.inl (vp_updL (vp_updL f1 1 ((f1 1) + ((f1 0) - (((f1 0) * 0) / 1)))) 0 (((f1 0) * 0) / 1)))))]) [0, 1] (by decide) rfl
  exact W.vret hx hb hr (fun t ht hW => ⟨⟨(), rfl, trivial, vp_updL (vp_updL f1 1 ((f1 1) + ((f1 0) - (((f1 0) * 0) / 1)))) 0 (((f1 0) * 0) / 1), rfl, rfl, by rw [ht]; exact hP9, hD9⟩, hS.F ht⟩) hS.2.2 dX4_sendNext_68
def rm_e4_begin_2 : Room := { frames := 0, cells := 0, slots := 0, locals := 0 }
set_option maxHeartbeats 4000000 in
set_option maxRecDepth 100000 in
theorem e4_begin_2 (l : Launch) (dC : Nat → ClassId) (dI : Nat → Nat → Nat) (kB kI kJ kZ kC kS : ClassId) (sz : Nat) (o : Nat) (o_met : Nat) (o_enough : Nat) (x_o : Nat → Int32) (f1 : Nat → Int64) : Met l yX4_begin wsX4_begin rm_e4_begin_2 (va_Pc [.ref o, .int 2] (fun U => U.heap.size = sz ∧ va_P (dC, dI) vwCl [(o, .inr (4, oX4 o_met o_enough x_o)), (o_met, .inl (kJ, 23, .inr (.inl f1)))] U.heap ∧ kE dC dI kB kI kJ kZ kC kS U ∧ va_D (fun _ => True) [(o, .inr (4, oX4 o_met o_enough x_o)), (o_met, .inl (kJ, 23, .inr (.inl f1)))])) (va_Qv (fun (_ : Unit) => True) (fun _ t => ∃ (g1 : Nat → Int64), g1 0 = kv2 0 0 ∧ g1 1 = kv2 0 1 ∧ g1 2 = kv2 0 2 ∧ va_P (dC, dI) vwCl [(o, .inr (4, oX4 o_met o_enough x_o)), (o_met, .inl (kJ, 23, .inr (.inl g1)))] t.heap ∧ va_D (va_A [(o, .inr (4, oX4 o_met o_enough x_o)), (o_met, .inl (kJ, 23, .inr (.inl f1)))] sz) [(o, .inr (4, oX4 o_met o_enough x_o)), (o_met, .inl (kJ, 23, .inr (.inl g1)))]) (va_A [(o, .inr (4, oX4 o_met o_enough x_o)), (o_met, .inl (kJ, 23, .inr (.inl f1)))] sz)) 0 0 (va_A [(o, .inr (4, oX4 o_met o_enough x_o)), (o_met, .inl (kJ, 23, .inr (.inl f1)))] sz) := by
  refine Met.ofW (cc := cX4_begin) (maxL := 3) (ret := none) (by decide) rfl ?_
  intro p e s m args0 below meth c s₁ B hml hv
  obtain ⟨hargs, hsz, hP, hE, hD0⟩ := hv
  have hx := B.exec
  have hb := B.bytes
  have hr := B.returns
  have hts := atoms_spec (ws := wsX4_begin) B.pre
  have hown : s.vm.findClass RX4 = some m.cls := findClass_of_methodNamed B.named
  have hlocks := B.notSynchronized
  have hK := hE.1
  have hin4 : ∀ w ∈ wsX40, w ∈ wsX4_begin := fun _ h9 => List.mem_cons_of_mem _ (List.mem_append_right _ h9)
  subst hsz
  have hD := hD0.self (sz := s.heap.size)
  generalize hAe : va_A [(o, .inr (4, oX4 o_met o_enough x_o)), (o_met, .inl (kJ, 23, .inr (.inl f1)))] s.heap.size = A at hD ⊢
  have hA : ∀ q : Nat, s.heap.size ≤ q → A q := fun q h => by rw [← hAe]; exact Or.inr h
  have hS : va_S A s.heap s.heap [] := va_S.rf
  have hP : va_P (dC, dI) vwCl [(o, .inr (4, oX4 o_met o_enough x_o)), (o_met, .inl (kJ, 23, .inr (.inl f1)))] s.heap := hP
  have hl := lv_entry ([.ref o, .int 2]) (n := 3) (Nat.le_of_ble_eq_true rfl)
  have hla : entryFrame m args0 3 = entryFrame m ([.ref o, .int 2] : List Value).toArray 3 := by rw [hargs]
  rw [hla, lg_entry_eq]
  generalize (lg_sl ([.ref o, .int 2]) ++ List.replicate (3 - (lg_sl ([.ref o, .int 2])).length) Slot.unset).toArray = ls at hl ⊢
  have hl : lv_has ls 3 [(0, .ref o), (1, .int 2)] := hl
  refine lv_aload_n hx hb dX4_begin_0 rfl (lv_at hl 0 rfl) ?_
  refine va_get (D := (dC, dI)) (ci := 4) (v := .ref o_met) (C := RX4) (T := TX4) (N := 3) hx hb hts hin4 hown hK hP 0 rfl rfl 0 (by decide) (hts (.fieldLink RX4 9 "PathProber$Odds" "met" "[J") (List.mem_of_getElem? (i := 1) (by decide +kernel))) (fun _ h9 => h9) rfl dX4_begin_1 ?_
  refine lv_iconst (v := 0) hx hb dX4_begin_4 (by decide) ?_
  refine lv_ldc2 hx hb hown (hts (.constantLong RX4 23 (1000000000000)) (List.mem_of_getElem? (i := 2) (by decide +kernel))) dX4_begin_5 ?_
  refine va_last hx hb hK hP hD hS 1 2 rfl rfl (vp_in_nI (n := 0) (by decide) (by decide)) dX4_begin_8 (fun H locs hP hD hS => ?_)
  have hP : va_P (dC, dI) vwCl [(o, .inr (4, oX4 o_met o_enough x_o)), (o_met, .inl (kJ, 23, .inr (.inl (vp_updL f1 0 1000000000000))))] H := hP
  have hD : va_D A [(o, .inr (4, oX4 o_met o_enough x_o)), (o_met, .inl (kJ, 23, .inr (.inl (vp_updL f1 0 1000000000000))))] := hD
  refine lv_iconst (v := 1) hx hb dX4_begin_9 (by decide) ?_
  refine lv_istore_n (lv' := [(2, .int 1), (0, .ref o), (1, .int 2)]) hx hb dX4_begin_10 rfl hl (by decide) rfl (fun ls hl => ?_)
  refine lv_iload_n hx hb dX4_begin_11 rfl (lv_at hl 0 rfl) ?_
  refine lv_iload_n hx hb dX4_begin_12 rfl (lv_at hl 2 rfl) ?_
  refine lv_icmp_gt (tgt := 29) hx hb dX4_begin_13 (by decide) (fun c9 => absurd c9 (by decide)) (fun _ => ?_)
  refine lv_aload_n hx hb dX4_begin_16 rfl (lv_at hl 1 rfl) ?_
  refine va_get (D := (dC, dI)) (ci := 4) (v := .ref o_met) (C := RX4) (T := TX4) (N := 3) hx hb hts hin4 hown hK hP 0 rfl rfl 0 (by decide) (hts (.fieldLink RX4 9 "PathProber$Odds" "met" "[J") (List.mem_of_getElem? (i := 1) (by decide +kernel))) (fun _ h9 => h9) rfl dX4_begin_17 ?_
  refine lv_iload_n hx hb dX4_begin_20 rfl (lv_at hl 0 rfl) ?_
  refine lv_lconst (v := 0) hx hb dX4_begin_21 (by decide) ?_
  refine va_last hx hb hK hP hD hS 1 2 rfl rfl (vp_in_nI (n := 1) (by decide) (by decide)) dX4_begin_22 (fun H locs hP hD hS => ?_)
  have hP : va_P (dC, dI) vwCl [(o, .inr (4, oX4 o_met o_enough x_o)), (o_met, .inl (kJ, 23, .inr (.inl (vp_updL (vp_updL f1 0 1000000000000) 1 0))))] H := hP
  have hD : va_D A [(o, .inr (4, oX4 o_met o_enough x_o)), (o_met, .inl (kJ, 23, .inr (.inl (vp_updL (vp_updL f1 0 1000000000000) 1 0))))] := hD
  refine lv_iinc (v := 2) (lv' := [(2, .int 2), (0, .ref o), (1, .int 2)]) hx hb dX4_begin_23 hl (k := 0) rfl (by decide) (by decide) rfl (fun ls hl => ?_)
  refine lv_goto (tgt := 11) hx hb dX4_begin_26 (by decide) ?_
  refine lv_iload_n hx hb dX4_begin_11 rfl (lv_at hl 0 rfl) ?_
  refine lv_iload_n hx hb dX4_begin_12 rfl (lv_at hl 2 rfl) ?_
  refine lv_icmp_gt (tgt := 29) hx hb dX4_begin_13 (by decide) (fun c9 => absurd c9 (by decide)) (fun _ => ?_)
  refine lv_aload_n hx hb dX4_begin_16 rfl (lv_at hl 1 rfl) ?_
  refine va_get (D := (dC, dI)) (ci := 4) (v := .ref o_met) (C := RX4) (T := TX4) (N := 3) hx hb hts hin4 hown hK hP 0 rfl rfl 0 (by decide) (hts (.fieldLink RX4 9 "PathProber$Odds" "met" "[J") (List.mem_of_getElem? (i := 1) (by decide +kernel))) (fun _ h9 => h9) rfl dX4_begin_17 ?_
  refine lv_iload_n hx hb dX4_begin_20 rfl (lv_at hl 0 rfl) ?_
  refine lv_lconst (v := 0) hx hb dX4_begin_21 (by decide) ?_
  refine va_last hx hb hK hP hD hS 1 2 rfl rfl (vp_in_nI (n := 2) (by decide) (by decide)) dX4_begin_22 (fun H locs hP hD hS => ?_)
  have hP : va_P (dC, dI) vwCl [(o, .inr (4, oX4 o_met o_enough x_o)), (o_met, .inl (kJ, 23, .inr (.inl (vp_updL (vp_updL (vp_updL f1 0 1000000000000) 1 0) 2 0))))] H := hP
  have hD : va_D A [(o, .inr (4, oX4 o_met o_enough x_o)), (o_met, .inl (kJ, 23, .inr (.inl (vp_updL (vp_updL (vp_updL f1 0 1000000000000) 1 0) 2 0))))] := hD
  refine lv_iinc (v := 3) (lv' := [(2, .int 3), (0, .ref o), (1, .int 2)]) hx hb dX4_begin_23 hl (k := 0) rfl (by decide) (by decide) rfl (fun ls hl => ?_)
  refine lv_goto (tgt := 11) hx hb dX4_begin_26 (by decide) ?_
  refine lv_iload_n hx hb dX4_begin_11 rfl (lv_at hl 0 rfl) ?_
  refine lv_iload_n hx hb dX4_begin_12 rfl (lv_at hl 2 rfl) ?_
  refine lv_icmp_gt (tgt := 29) hx hb dX4_begin_13 (by decide) (fun _ => ?_) (fun c9 => absurd (by decide) c9)
  have hP9 := hP.sub (ws' := [(o, .inr (4, oX4 o_met o_enough x_o)), (o_met, .inl (kJ, 23, .inr (.inl (vp_updL (vp_updL (vp_updL f1 0 1000000000000) 1 0) 2 0))))]) [0, 1] rfl
  have hD9 := hD.sub (ws' := [(o, .inr (4, oX4 o_met o_enough x_o)), (o_met, .inl (kJ, 23, .inr (.inl (vp_updL (vp_updL (vp_updL f1 0 1000000000000) 1 0) 2 0))))]) [0, 1] (by decide) rfl
  exact W.vret hx hb hr (fun t ht hW => ⟨⟨(), rfl, trivial, vp_updL (vp_updL (vp_updL f1 0 1000000000000) 1 0) 2 0, rfl, rfl, rfl, by rw [ht]; exact hP9, hD9⟩, hS.F ht⟩) hS.2.2 dX4_begin_29
def rm_e4_sendNext_2 : Room := { frames := 0, cells := 0, slots := 0, locals := 0 }
set_option maxHeartbeats 4000000 in
set_option maxRecDepth 100000 in
theorem e4_sendNext_2 (l : Launch) (dC : Nat → ClassId) (dI : Nat → Nat → Nat) (kB kI kJ kZ kC kS : ClassId) (sz : Nat) (o : Nat) (o_met : Nat) (o_enough : Nat) (x_o : Nat → Int32) (f1 : Nat → Int64) : Met l yX4_sendNext wsX4_sendNext rm_e4_sendNext_2 (va_Pc [.ref o, .int 2] (fun U => U.heap.size = sz ∧ va_P (dC, dI) vwCl [(o, .inr (4, oX4 o_met o_enough x_o)), (o_met, .inl (kJ, 23, .inr (.inl f1)))] U.heap ∧ kE dC dI kB kI kJ kZ kC kS U ∧ va_D (fun _ => True) [(o, .inr (4, oX4 o_met o_enough x_o)), (o_met, .inl (kJ, 23, .inr (.inl f1)))])) (va_Qv (fun (_ : Unit) => True) (fun _ t => ∃ (g1 : Nat → Int64), g1 0 = f1 0 * 0 / 2 ∧ g1 1 = f1 1 * 1 / 2 + (f1 0 - f1 0 * 0 / 2) ∧ g1 2 = f1 2 + (f1 1 - f1 1 * 1 / 2) ∧ va_P (dC, dI) vwCl [(o, .inr (4, oX4 o_met o_enough x_o)), (o_met, .inl (kJ, 23, .inr (.inl g1)))] t.heap ∧ va_D (va_A [(o, .inr (4, oX4 o_met o_enough x_o)), (o_met, .inl (kJ, 23, .inr (.inl f1)))] sz) [(o, .inr (4, oX4 o_met o_enough x_o)), (o_met, .inl (kJ, 23, .inr (.inl g1)))]) (va_A [(o, .inr (4, oX4 o_met o_enough x_o)), (o_met, .inl (kJ, 23, .inr (.inl f1)))] sz)) 0 0 (va_A [(o, .inr (4, oX4 o_met o_enough x_o)), (o_met, .inl (kJ, 23, .inr (.inl f1)))] sz) := by
  refine Met.ofW (cc := cX4_sendNext) (maxL := 5) (ret := none) (by decide) rfl ?_
  intro p e s m args0 below meth c s₁ B hml hv
  obtain ⟨hargs, hsz, hP, hE, hD0⟩ := hv
  have hx := B.exec
  have hb := B.bytes
  have hr := B.returns
  have hts := atoms_spec (ws := wsX4_sendNext) B.pre
  have hown : s.vm.findClass RX4 = some m.cls := findClass_of_methodNamed B.named
  have hlocks := B.notSynchronized
  have hK := hE.1
  have hin4 : ∀ w ∈ wsX40, w ∈ wsX4_sendNext := fun _ h9 => List.mem_cons_of_mem _ (List.mem_append_right _ h9)
  subst hsz
  have hD := hD0.self (sz := s.heap.size)
  generalize hAe : va_A [(o, .inr (4, oX4 o_met o_enough x_o)), (o_met, .inl (kJ, 23, .inr (.inl f1)))] s.heap.size = A at hD ⊢
  have hA : ∀ q : Nat, s.heap.size ≤ q → A q := fun q h => by rw [← hAe]; exact Or.inr h
  have hS : va_S A s.heap s.heap [] := va_S.rf
  have hP : va_P (dC, dI) vwCl [(o, .inr (4, oX4 o_met o_enough x_o)), (o_met, .inl (kJ, 23, .inr (.inl f1)))] s.heap := hP
  have hl := lv_entry ([.ref o, .int 2]) (n := 5) (Nat.le_of_ble_eq_true rfl)
  have hla : entryFrame m args0 5 = entryFrame m ([.ref o, .int 2] : List Value).toArray 5 := by rw [hargs]
  rw [hla, lg_entry_eq]
  generalize (lg_sl ([.ref o, .int 2]) ++ List.replicate (5 - (lg_sl ([.ref o, .int 2])).length) Slot.unset).toArray = ls at hl ⊢
  have hl : lv_has ls 5 [(0, .ref o), (1, .int 2)] := hl
  refine lv_iload_n hx hb dX4_sendNext_0 rfl (lv_at hl 1 rfl) ?_
  refine lv_iconst (v := 1) hx hb dX4_sendNext_1 (by decide) ?_
  refine lv_icmp_lt (tgt := 14) hx hb dX4_sendNext_2 (by decide) (fun c9 => absurd c9 (by decide)) (fun _ => ?_)
  refine lv_iload_n hx hb dX4_sendNext_5 rfl (lv_at hl 1 rfl) ?_
  refine lv_aload_n hx hb dX4_sendNext_6 rfl (lv_at hl 0 rfl) ?_
  refine va_get (D := (dC, dI)) (ci := 4) (v := .ref o_met) (C := RX4) (T := TX4) (N := 3) hx hb hts hin4 hown hK hP 0 rfl rfl 0 (by decide) (hts (.fieldLink RX4 9 "PathProber$Odds" "met" "[J") (List.mem_of_getElem? (i := 1) (by decide +kernel))) (fun _ h9 => h9) rfl dX4_sendNext_7 ?_
  refine va_alen (v := 23) hx hb hK hP 1 2 rfl rfl rfl dX4_sendNext_10 ?_
  refine lv_icmp_lt (tgt := 15) hx hb dX4_sendNext_11 (by decide) (fun _ => ?_) (fun c9 => absurd (by decide) c9)
  refine lv_iload_n hx hb dX4_sendNext_15 rfl (lv_at hl 1 rfl) ?_
  refine lv_iconst (v := 1) hx hb dX4_sendNext_16 (by decide) ?_
  refine lv_isub hx hb dX4_sendNext_17 ?_
  refine lv_topi (fun z1 e2 => ?_)
  obtain rfl : z1 = (1 : Int32) := e2.trans (by decide)
  refine lv_istore_n (lv' := [(2, .int 1), (0, .ref o), (1, .int 2)]) hx hb dX4_sendNext_18 rfl hl (by decide) rfl (fun ls hl => ?_)
  refine lv_iload_n hx hb dX4_sendNext_19 rfl (lv_at hl 0 rfl) ?_
  refine lv_if_lt (tgt := 68) hx hb dX4_sendNext_20 (by decide) (fun c9 => absurd c9 (by decide)) (fun _ => ?_)
  refine lv_aload_n hx hb dX4_sendNext_23 rfl (lv_at hl 1 rfl) ?_
  refine va_get (D := (dC, dI)) (ci := 4) (v := .ref o_met) (C := RX4) (T := TX4) (N := 3) hx hb hts hin4 hown hK hP 0 rfl rfl 0 (by decide) (hts (.fieldLink RX4 9 "PathProber$Odds" "met" "[J") (List.mem_of_getElem? (i := 1) (by decide +kernel))) (fun _ h9 => h9) rfl dX4_sendNext_24 ?_
  refine lv_iload_n hx hb dX4_sendNext_27 rfl (lv_at hl 0 rfl) ?_
  refine va_lald hx hb hK hP 1 2 rfl rfl (vp_in_nI (n := 1) (by decide) (by decide)) dX4_sendNext_28 ?_
  refine lv_topl (fun z3 e4 => ?_)
  obtain rfl : z3 = (f1 1 : Int64) := e4
  refine lv_iload_n hx hb dX4_sendNext_29 rfl (lv_at hl 0 rfl) ?_
  refine lv_i2l (v := 1) hx hb dX4_sendNext_30 (by decide) ?_
  refine lv_lmul hx hb dX4_sendNext_31 ?_
  refine lv_iload_n hx hb dX4_sendNext_32 rfl (lv_at hl 2 rfl) ?_
  refine lv_i2l (v := 2) hx hb dX4_sendNext_33 (by decide) ?_
  refine lv_ldiv hx hb dX4_sendNext_34 (by decide) ?_
  refine lv_lstore_n (lv' := [(3, .long (((f1 1) * 1) / 2)), (2, .int 1), (0, .ref o), (1, .int 2)]) hx hb dX4_sendNext_35 rfl hl (by decide) rfl (fun ls hl => ?_)
  refine lv_aload_n hx hb dX4_sendNext_36 rfl (lv_at hl 2 rfl) ?_
  refine va_get (D := (dC, dI)) (ci := 4) (v := .ref o_met) (C := RX4) (T := TX4) (N := 3) hx hb hts hin4 hown hK hP 0 rfl rfl 0 (by decide) (hts (.fieldLink RX4 9 "PathProber$Odds" "met" "[J") (List.mem_of_getElem? (i := 1) (by decide +kernel))) (fun _ h9 => h9) rfl dX4_sendNext_37 ?_
  refine lv_iload_n hx hb dX4_sendNext_40 rfl (lv_at hl 1 rfl) ?_
  refine lv_iconst (v := 1) hx hb dX4_sendNext_41 (by decide) ?_
  refine lv_iadd hx hb dX4_sendNext_42 ?_
  refine lv_topi (fun z5 e6 => ?_)
  obtain rfl : z5 = (2 : Int32) := e6.trans (by decide)
  refine lv_dup2_11 hx hb dX4_sendNext_43 rfl rfl ?_
  refine va_lald hx hb hK hP 1 2 rfl rfl (vp_in_nI (n := 2) (by decide) (by decide)) dX4_sendNext_44 ?_
  refine lv_topl (fun z7 e8 => ?_)
  obtain rfl : z7 = (f1 2 : Int64) := e8
  refine lv_aload_n hx hb dX4_sendNext_45 rfl (lv_at hl 2 rfl) ?_
  refine va_get (D := (dC, dI)) (ci := 4) (v := .ref o_met) (C := RX4) (T := TX4) (N := 3) hx hb hts hin4 hown hK hP 0 rfl rfl 0 (by decide) (hts (.fieldLink RX4 9 "PathProber$Odds" "met" "[J") (List.mem_of_getElem? (i := 1) (by decide +kernel))) (fun _ h9 => h9) rfl dX4_sendNext_46 ?_
  refine lv_iload_n hx hb dX4_sendNext_49 rfl (lv_at hl 1 rfl) ?_
  refine va_lald hx hb hK hP 1 2 rfl rfl (vp_in_nI (n := 1) (by decide) (by decide)) dX4_sendNext_50 ?_
  refine lv_topl (fun z9 e10 => ?_)
  obtain rfl : z9 = (f1 1 : Int64) := e10
  refine lv_lload_n hx hb dX4_sendNext_51 rfl (lv_at hl 0 rfl) ?_
  refine lv_lsub hx hb dX4_sendNext_52 ?_
  refine lv_ladd hx hb dX4_sendNext_53 ?_
  refine va_last hx hb hK hP hD hS 1 2 rfl rfl (vp_in_nI (n := 2) (by decide) (by decide)) dX4_sendNext_54 (fun H locs hP hD hS => ?_)
  have hP : va_P (dC, dI) vwCl [(o, .inr (4, oX4 o_met o_enough x_o)), (o_met, .inl (kJ, 23, .inr (.inl (vp_updL f1 2 ((f1 2) + ((f1 1) - (((f1 1) * 1) / 2)))))))] H := hP
  have hD : va_D A [(o, .inr (4, oX4 o_met o_enough x_o)), (o_met, .inl (kJ, 23, .inr (.inl (vp_updL f1 2 ((f1 2) + ((f1 1) - (((f1 1) * 1) / 2)))))))] := hD
  refine lv_aload_n hx hb dX4_sendNext_55 rfl (lv_at hl 2 rfl) ?_
  refine va_get (D := (dC, dI)) (ci := 4) (v := .ref o_met) (C := RX4) (T := TX4) (N := 3) hx hb hts hin4 hown hK hP 0 rfl rfl 0 (by decide) (hts (.fieldLink RX4 9 "PathProber$Odds" "met" "[J") (List.mem_of_getElem? (i := 1) (by decide +kernel))) (fun _ h9 => h9) rfl dX4_sendNext_56 ?_
  refine lv_iload_n hx hb dX4_sendNext_59 rfl (lv_at hl 1 rfl) ?_
  refine lv_lload_n hx hb dX4_sendNext_60 rfl (lv_at hl 0 rfl) ?_
  refine va_last hx hb hK hP hD hS 1 2 rfl rfl (vp_in_nI (n := 1) (by decide) (by decide)) dX4_sendNext_61 (fun H locs hP hD hS => ?_)
  have hP : va_P (dC, dI) vwCl [(o, .inr (4, oX4 o_met o_enough x_o)), (o_met, .inl (kJ, 23, .inr (.inl (vp_updL (vp_updL f1 2 ((f1 2) + ((f1 1) - (((f1 1) * 1) / 2)))) 1 (((f1 1) * 1) / 2)))))] H := hP
  have hD : va_D A [(o, .inr (4, oX4 o_met o_enough x_o)), (o_met, .inl (kJ, 23, .inr (.inl (vp_updL (vp_updL f1 2 ((f1 2) + ((f1 1) - (((f1 1) * 1) / 2)))) 1 (((f1 1) * 1) / 2)))))] := hD
  refine lv_iinc (v := 0) (lv' := [(2, .int 0), (3, .long (((f1 1) * 1) / 2)), (0, .ref o), (1, .int 2)]) hx hb dX4_sendNext_62 hl (k := 1) rfl (by decide) (by decide) rfl (fun ls hl => ?_)
  refine lv_goto (tgt := 19) hx hb dX4_sendNext_65 (by decide) ?_
  refine lv_iload_n hx hb dX4_sendNext_19 rfl (lv_at hl 0 rfl) ?_
  refine lv_if_lt (tgt := 68) hx hb dX4_sendNext_20 (by decide) (fun c9 => absurd c9 (by decide)) (fun _ => ?_)
  refine lv_aload_n hx hb dX4_sendNext_23 rfl (lv_at hl 2 rfl) ?_
  refine va_get (D := (dC, dI)) (ci := 4) (v := .ref o_met) (C := RX4) (T := TX4) (N := 3) hx hb hts hin4 hown hK hP 0 rfl rfl 0 (by decide) (hts (.fieldLink RX4 9 "PathProber$Odds" "met" "[J") (List.mem_of_getElem? (i := 1) (by decide +kernel))) (fun _ h9 => h9) rfl dX4_sendNext_24 ?_
  refine lv_iload_n hx hb dX4_sendNext_27 rfl (lv_at hl 0 rfl) ?_
  refine va_lald hx hb hK hP 1 2 rfl rfl (vp_in_nI (n := 0) (by decide) (by decide)) dX4_sendNext_28 ?_
  refine lv_topl (fun z11 e12 => ?_)
  obtain rfl : z11 = (f1 0 : Int64) := e12
  refine lv_iload_n hx hb dX4_sendNext_29 rfl (lv_at hl 0 rfl) ?_
  refine lv_i2l (v := 0) hx hb dX4_sendNext_30 (by decide) ?_
  refine lv_lmul hx hb dX4_sendNext_31 ?_
  refine lv_iload_n hx hb dX4_sendNext_32 rfl (lv_at hl 3 rfl) ?_
  refine lv_i2l (v := 2) hx hb dX4_sendNext_33 (by decide) ?_
  refine lv_ldiv hx hb dX4_sendNext_34 (by decide) ?_
  refine lv_lstore_n (lv' := [(3, .long (((f1 0) * 0) / 2)), (2, .int 0), (0, .ref o), (1, .int 2)]) hx hb dX4_sendNext_35 rfl hl (by decide) rfl (fun ls hl => ?_)
  refine lv_aload_n hx hb dX4_sendNext_36 rfl (lv_at hl 2 rfl) ?_
  refine va_get (D := (dC, dI)) (ci := 4) (v := .ref o_met) (C := RX4) (T := TX4) (N := 3) hx hb hts hin4 hown hK hP 0 rfl rfl 0 (by decide) (hts (.fieldLink RX4 9 "PathProber$Odds" "met" "[J") (List.mem_of_getElem? (i := 1) (by decide +kernel))) (fun _ h9 => h9) rfl dX4_sendNext_37 ?_
  refine lv_iload_n hx hb dX4_sendNext_40 rfl (lv_at hl 1 rfl) ?_
  refine lv_iconst (v := 1) hx hb dX4_sendNext_41 (by decide) ?_
  refine lv_iadd hx hb dX4_sendNext_42 ?_
  refine lv_topi (fun z13 e14 => ?_)
  obtain rfl : z13 = (1 : Int32) := e14.trans (by decide)
  refine lv_dup2_11 hx hb dX4_sendNext_43 rfl rfl ?_
  refine va_lald hx hb hK hP 1 2 rfl rfl (vp_in_nI (n := 1) (by decide) (by decide)) dX4_sendNext_44 ?_
  refine lv_topl (fun z15 e16 => ?_)
  obtain rfl : z15 = (((f1 1) * 1) / 2 : Int64) := e16
  refine lv_aload_n hx hb dX4_sendNext_45 rfl (lv_at hl 2 rfl) ?_
  refine va_get (D := (dC, dI)) (ci := 4) (v := .ref o_met) (C := RX4) (T := TX4) (N := 3) hx hb hts hin4 hown hK hP 0 rfl rfl 0 (by decide) (hts (.fieldLink RX4 9 "PathProber$Odds" "met" "[J") (List.mem_of_getElem? (i := 1) (by decide +kernel))) (fun _ h9 => h9) rfl dX4_sendNext_46 ?_
  refine lv_iload_n hx hb dX4_sendNext_49 rfl (lv_at hl 1 rfl) ?_
  refine va_lald hx hb hK hP 1 2 rfl rfl (vp_in_nI (n := 0) (by decide) (by decide)) dX4_sendNext_50 ?_
  refine lv_topl (fun z17 e18 => ?_)
  obtain rfl : z17 = (f1 0 : Int64) := e18
  refine lv_lload_n hx hb dX4_sendNext_51 rfl (lv_at hl 0 rfl) ?_
  refine lv_lsub hx hb dX4_sendNext_52 ?_
  refine lv_ladd hx hb dX4_sendNext_53 ?_
  refine va_last hx hb hK hP hD hS 1 2 rfl rfl (vp_in_nI (n := 1) (by decide) (by decide)) dX4_sendNext_54 (fun H locs hP hD hS => ?_)
  have hP : va_P (dC, dI) vwCl [(o, .inr (4, oX4 o_met o_enough x_o)), (o_met, .inl (kJ, 23, .inr (.inl (vp_updL (vp_updL (vp_updL f1 2 ((f1 2) + ((f1 1) - (((f1 1) * 1) / 2)))) 1 (((f1 1) * 1) / 2)) 1 ((((f1 1) * 1) / 2) + ((f1 0) - (((f1 0) * 0) / 2)))))))] H := hP
  have hD : va_D A [(o, .inr (4, oX4 o_met o_enough x_o)), (o_met, .inl (kJ, 23, .inr (.inl (vp_updL (vp_updL (vp_updL f1 2 ((f1 2) + ((f1 1) - (((f1 1) * 1) / 2)))) 1 (((f1 1) * 1) / 2)) 1 ((((f1 1) * 1) / 2) + ((f1 0) - (((f1 0) * 0) / 2)))))))] := hD
  refine lv_aload_n hx hb dX4_sendNext_55 rfl (lv_at hl 2 rfl) ?_
  refine va_get (D := (dC, dI)) (ci := 4) (v := .ref o_met) (C := RX4) (T := TX4) (N := 3) hx hb hts hin4 hown hK hP 0 rfl rfl 0 (by decide) (hts (.fieldLink RX4 9 "PathProber$Odds" "met" "[J") (List.mem_of_getElem? (i := 1) (by decide +kernel))) (fun _ h9 => h9) rfl dX4_sendNext_56 ?_
  refine lv_iload_n hx hb dX4_sendNext_59 rfl (lv_at hl 1 rfl) ?_
  refine lv_lload_n hx hb dX4_sendNext_60 rfl (lv_at hl 0 rfl) ?_
  refine va_last hx hb hK hP hD hS 1 2 rfl rfl (vp_in_nI (n := 0) (by decide) (by decide)) dX4_sendNext_61 (fun H locs hP hD hS => ?_)
  have hP : va_P (dC, dI) vwCl [(o, .inr (4, oX4 o_met o_enough x_o)), (o_met, .inl (kJ, 23, .inr (.inl (vp_updL (vp_updL (vp_updL (vp_updL f1 2 ((f1 2) + ((f1 1) - (((f1 1) * 1) / 2)))) 1 (((f1 1) * 1) / 2)) 1 ((((f1 1) * 1) / 2) + ((f1 0) - (((f1 0) * 0) / 2)))) 0 (((f1 0) * 0) / 2)))))] H := hP
  have hD : va_D A [(o, .inr (4, oX4 o_met o_enough x_o)), (o_met, .inl (kJ, 23, .inr (.inl (vp_updL (vp_updL (vp_updL (vp_updL f1 2 ((f1 2) + ((f1 1) - (((f1 1) * 1) / 2)))) 1 (((f1 1) * 1) / 2)) 1 ((((f1 1) * 1) / 2) + ((f1 0) - (((f1 0) * 0) / 2)))) 0 (((f1 0) * 0) / 2)))))] := hD
  refine lv_iinc (v := (-1)) (lv' := [(2, .int (-1)), (3, .long (((f1 0) * 0) / 2)), (0, .ref o), (1, .int 2)]) hx hb dX4_sendNext_62 hl (k := 1) rfl (by decide) (by decide) rfl (fun ls hl => ?_)
  refine lv_goto (tgt := 19) hx hb dX4_sendNext_65 (by decide) ?_
  refine lv_iload_n hx hb dX4_sendNext_19 rfl (lv_at hl 0 rfl) ?_
  refine lv_if_lt (tgt := 68) hx hb dX4_sendNext_20 (by decide) (fun _ => ?_) (fun c9 => absurd (by decide) c9)
  have hP9 := hP.sub (ws' := [(o, .inr (4, oX4 o_met o_enough x_o)), (o_met, .inl (kJ, 23, .inr (.inl (vp_updL (vp_updL (vp_updL (vp_updL f1 2 ((f1 2) + ((f1 1) - (((f1 1) * 1) / 2)))) 1 (((f1 1) * 1) / 2)) 1 ((((f1 1) * 1) / 2) + ((f1 0) - (((f1 0) * 0) / 2)))) 0 (((f1 0) * 0) / 2)))))]) [0, 1] rfl
  have hD9 := hD.sub (ws' := [(o, .inr (4, oX4 o_met o_enough x_o)), (o_met, .inl (kJ, 23, .inr (.inl (vp_updL (vp_updL (vp_updL (vp_updL f1 2 ((f1 2) + ((f1 1) - (((f1 1) * 1) / 2)))) 1 (((f1 1) * 1) / 2)) 1 ((((f1 1) * 1) / 2) + ((f1 0) - (((f1 0) * 0) / 2)))) 0 (((f1 0) * 0) / 2)))))]) [0, 1] (by decide) rfl
  exact W.vret hx hb hr (fun t ht hW => ⟨⟨(), rfl, trivial, vp_updL (vp_updL (vp_updL (vp_updL f1 2 ((f1 2) + ((f1 1) - (((f1 1) * 1) / 2)))) 1 (((f1 1) * 1) / 2)) 1 ((((f1 1) * 1) / 2) + ((f1 0) - (((f1 0) * 0) / 2)))) 0 (((f1 0) * 0) / 2), rfl, rfl, rfl, by rw [ht]; exact hP9, hD9⟩, hS.F ht⟩) hS.2.2 dX4_sendNext_68
def rm_e4_begin_3 : Room := { frames := 0, cells := 0, slots := 0, locals := 0 }
set_option maxHeartbeats 4000000 in
set_option maxRecDepth 100000 in
theorem e4_begin_3 (l : Launch) (dC : Nat → ClassId) (dI : Nat → Nat → Nat) (kB kI kJ kZ kC kS : ClassId) (sz : Nat) (o : Nat) (o_met : Nat) (o_enough : Nat) (x_o : Nat → Int32) (f1 : Nat → Int64) : Met l yX4_begin wsX4_begin rm_e4_begin_3 (va_Pc [.ref o, .int 3] (fun U => U.heap.size = sz ∧ va_P (dC, dI) vwCl [(o, .inr (4, oX4 o_met o_enough x_o)), (o_met, .inl (kJ, 23, .inr (.inl f1)))] U.heap ∧ kE dC dI kB kI kJ kZ kC kS U ∧ va_D (fun _ => True) [(o, .inr (4, oX4 o_met o_enough x_o)), (o_met, .inl (kJ, 23, .inr (.inl f1)))])) (va_Qv (fun (_ : Unit) => True) (fun _ t => ∃ (g1 : Nat → Int64), g1 0 = kv3 0 0 ∧ g1 1 = kv3 0 1 ∧ g1 2 = kv3 0 2 ∧ g1 3 = kv3 0 3 ∧ va_P (dC, dI) vwCl [(o, .inr (4, oX4 o_met o_enough x_o)), (o_met, .inl (kJ, 23, .inr (.inl g1)))] t.heap ∧ va_D (va_A [(o, .inr (4, oX4 o_met o_enough x_o)), (o_met, .inl (kJ, 23, .inr (.inl f1)))] sz) [(o, .inr (4, oX4 o_met o_enough x_o)), (o_met, .inl (kJ, 23, .inr (.inl g1)))]) (va_A [(o, .inr (4, oX4 o_met o_enough x_o)), (o_met, .inl (kJ, 23, .inr (.inl f1)))] sz)) 0 0 (va_A [(o, .inr (4, oX4 o_met o_enough x_o)), (o_met, .inl (kJ, 23, .inr (.inl f1)))] sz) := by
  refine Met.ofW (cc := cX4_begin) (maxL := 3) (ret := none) (by decide) rfl ?_
  intro p e s m args0 below meth c s₁ B hml hv
  obtain ⟨hargs, hsz, hP, hE, hD0⟩ := hv
  have hx := B.exec
  have hb := B.bytes
  have hr := B.returns
  have hts := atoms_spec (ws := wsX4_begin) B.pre
  have hown : s.vm.findClass RX4 = some m.cls := findClass_of_methodNamed B.named
  have hlocks := B.notSynchronized
  have hK := hE.1
  have hin4 : ∀ w ∈ wsX40, w ∈ wsX4_begin := fun _ h9 => List.mem_cons_of_mem _ (List.mem_append_right _ h9)
  subst hsz
  have hD := hD0.self (sz := s.heap.size)
  generalize hAe : va_A [(o, .inr (4, oX4 o_met o_enough x_o)), (o_met, .inl (kJ, 23, .inr (.inl f1)))] s.heap.size = A at hD ⊢
  have hA : ∀ q : Nat, s.heap.size ≤ q → A q := fun q h => by rw [← hAe]; exact Or.inr h
  have hS : va_S A s.heap s.heap [] := va_S.rf
  have hP : va_P (dC, dI) vwCl [(o, .inr (4, oX4 o_met o_enough x_o)), (o_met, .inl (kJ, 23, .inr (.inl f1)))] s.heap := hP
  have hl := lv_entry ([.ref o, .int 3]) (n := 3) (Nat.le_of_ble_eq_true rfl)
  have hla : entryFrame m args0 3 = entryFrame m ([.ref o, .int 3] : List Value).toArray 3 := by rw [hargs]
  rw [hla, lg_entry_eq]
  generalize (lg_sl ([.ref o, .int 3]) ++ List.replicate (3 - (lg_sl ([.ref o, .int 3])).length) Slot.unset).toArray = ls at hl ⊢
  have hl : lv_has ls 3 [(0, .ref o), (1, .int 3)] := hl
  refine lv_aload_n hx hb dX4_begin_0 rfl (lv_at hl 0 rfl) ?_
  refine va_get (D := (dC, dI)) (ci := 4) (v := .ref o_met) (C := RX4) (T := TX4) (N := 3) hx hb hts hin4 hown hK hP 0 rfl rfl 0 (by decide) (hts (.fieldLink RX4 9 "PathProber$Odds" "met" "[J") (List.mem_of_getElem? (i := 1) (by decide +kernel))) (fun _ h9 => h9) rfl dX4_begin_1 ?_
  refine lv_iconst (v := 0) hx hb dX4_begin_4 (by decide) ?_
  refine lv_ldc2 hx hb hown (hts (.constantLong RX4 23 (1000000000000)) (List.mem_of_getElem? (i := 2) (by decide +kernel))) dX4_begin_5 ?_
  refine va_last hx hb hK hP hD hS 1 2 rfl rfl (vp_in_nI (n := 0) (by decide) (by decide)) dX4_begin_8 (fun H locs hP hD hS => ?_)
  have hP : va_P (dC, dI) vwCl [(o, .inr (4, oX4 o_met o_enough x_o)), (o_met, .inl (kJ, 23, .inr (.inl (vp_updL f1 0 1000000000000))))] H := hP
  have hD : va_D A [(o, .inr (4, oX4 o_met o_enough x_o)), (o_met, .inl (kJ, 23, .inr (.inl (vp_updL f1 0 1000000000000))))] := hD
  refine lv_iconst (v := 1) hx hb dX4_begin_9 (by decide) ?_
  refine lv_istore_n (lv' := [(2, .int 1), (0, .ref o), (1, .int 3)]) hx hb dX4_begin_10 rfl hl (by decide) rfl (fun ls hl => ?_)
  refine lv_iload_n hx hb dX4_begin_11 rfl (lv_at hl 0 rfl) ?_
  refine lv_iload_n hx hb dX4_begin_12 rfl (lv_at hl 2 rfl) ?_
  refine lv_icmp_gt (tgt := 29) hx hb dX4_begin_13 (by decide) (fun c9 => absurd c9 (by decide)) (fun _ => ?_)
  refine lv_aload_n hx hb dX4_begin_16 rfl (lv_at hl 1 rfl) ?_
  refine va_get (D := (dC, dI)) (ci := 4) (v := .ref o_met) (C := RX4) (T := TX4) (N := 3) hx hb hts hin4 hown hK hP 0 rfl rfl 0 (by decide) (hts (.fieldLink RX4 9 "PathProber$Odds" "met" "[J") (List.mem_of_getElem? (i := 1) (by decide +kernel))) (fun _ h9 => h9) rfl dX4_begin_17 ?_
  refine lv_iload_n hx hb dX4_begin_20 rfl (lv_at hl 0 rfl) ?_
  refine lv_lconst (v := 0) hx hb dX4_begin_21 (by decide) ?_
  refine va_last hx hb hK hP hD hS 1 2 rfl rfl (vp_in_nI (n := 1) (by decide) (by decide)) dX4_begin_22 (fun H locs hP hD hS => ?_)
  have hP : va_P (dC, dI) vwCl [(o, .inr (4, oX4 o_met o_enough x_o)), (o_met, .inl (kJ, 23, .inr (.inl (vp_updL (vp_updL f1 0 1000000000000) 1 0))))] H := hP
  have hD : va_D A [(o, .inr (4, oX4 o_met o_enough x_o)), (o_met, .inl (kJ, 23, .inr (.inl (vp_updL (vp_updL f1 0 1000000000000) 1 0))))] := hD
  refine lv_iinc (v := 2) (lv' := [(2, .int 2), (0, .ref o), (1, .int 3)]) hx hb dX4_begin_23 hl (k := 0) rfl (by decide) (by decide) rfl (fun ls hl => ?_)
  refine lv_goto (tgt := 11) hx hb dX4_begin_26 (by decide) ?_
  refine lv_iload_n hx hb dX4_begin_11 rfl (lv_at hl 0 rfl) ?_
  refine lv_iload_n hx hb dX4_begin_12 rfl (lv_at hl 2 rfl) ?_
  refine lv_icmp_gt (tgt := 29) hx hb dX4_begin_13 (by decide) (fun c9 => absurd c9 (by decide)) (fun _ => ?_)
  refine lv_aload_n hx hb dX4_begin_16 rfl (lv_at hl 1 rfl) ?_
  refine va_get (D := (dC, dI)) (ci := 4) (v := .ref o_met) (C := RX4) (T := TX4) (N := 3) hx hb hts hin4 hown hK hP 0 rfl rfl 0 (by decide) (hts (.fieldLink RX4 9 "PathProber$Odds" "met" "[J") (List.mem_of_getElem? (i := 1) (by decide +kernel))) (fun _ h9 => h9) rfl dX4_begin_17 ?_
  refine lv_iload_n hx hb dX4_begin_20 rfl (lv_at hl 0 rfl) ?_
  refine lv_lconst (v := 0) hx hb dX4_begin_21 (by decide) ?_
  refine va_last hx hb hK hP hD hS 1 2 rfl rfl (vp_in_nI (n := 2) (by decide) (by decide)) dX4_begin_22 (fun H locs hP hD hS => ?_)
  have hP : va_P (dC, dI) vwCl [(o, .inr (4, oX4 o_met o_enough x_o)), (o_met, .inl (kJ, 23, .inr (.inl (vp_updL (vp_updL (vp_updL f1 0 1000000000000) 1 0) 2 0))))] H := hP
  have hD : va_D A [(o, .inr (4, oX4 o_met o_enough x_o)), (o_met, .inl (kJ, 23, .inr (.inl (vp_updL (vp_updL (vp_updL f1 0 1000000000000) 1 0) 2 0))))] := hD
  refine lv_iinc (v := 3) (lv' := [(2, .int 3), (0, .ref o), (1, .int 3)]) hx hb dX4_begin_23 hl (k := 0) rfl (by decide) (by decide) rfl (fun ls hl => ?_)
  refine lv_goto (tgt := 11) hx hb dX4_begin_26 (by decide) ?_
  refine lv_iload_n hx hb dX4_begin_11 rfl (lv_at hl 0 rfl) ?_
  refine lv_iload_n hx hb dX4_begin_12 rfl (lv_at hl 2 rfl) ?_
  refine lv_icmp_gt (tgt := 29) hx hb dX4_begin_13 (by decide) (fun c9 => absurd c9 (by decide)) (fun _ => ?_)
  refine lv_aload_n hx hb dX4_begin_16 rfl (lv_at hl 1 rfl) ?_
  refine va_get (D := (dC, dI)) (ci := 4) (v := .ref o_met) (C := RX4) (T := TX4) (N := 3) hx hb hts hin4 hown hK hP 0 rfl rfl 0 (by decide) (hts (.fieldLink RX4 9 "PathProber$Odds" "met" "[J") (List.mem_of_getElem? (i := 1) (by decide +kernel))) (fun _ h9 => h9) rfl dX4_begin_17 ?_
  refine lv_iload_n hx hb dX4_begin_20 rfl (lv_at hl 0 rfl) ?_
  refine lv_lconst (v := 0) hx hb dX4_begin_21 (by decide) ?_
  refine va_last hx hb hK hP hD hS 1 2 rfl rfl (vp_in_nI (n := 3) (by decide) (by decide)) dX4_begin_22 (fun H locs hP hD hS => ?_)
  have hP : va_P (dC, dI) vwCl [(o, .inr (4, oX4 o_met o_enough x_o)), (o_met, .inl (kJ, 23, .inr (.inl (vp_updL (vp_updL (vp_updL (vp_updL f1 0 1000000000000) 1 0) 2 0) 3 0))))] H := hP
  have hD : va_D A [(o, .inr (4, oX4 o_met o_enough x_o)), (o_met, .inl (kJ, 23, .inr (.inl (vp_updL (vp_updL (vp_updL (vp_updL f1 0 1000000000000) 1 0) 2 0) 3 0))))] := hD
  refine lv_iinc (v := 4) (lv' := [(2, .int 4), (0, .ref o), (1, .int 3)]) hx hb dX4_begin_23 hl (k := 0) rfl (by decide) (by decide) rfl (fun ls hl => ?_)
  refine lv_goto (tgt := 11) hx hb dX4_begin_26 (by decide) ?_
  refine lv_iload_n hx hb dX4_begin_11 rfl (lv_at hl 0 rfl) ?_
  refine lv_iload_n hx hb dX4_begin_12 rfl (lv_at hl 2 rfl) ?_
  refine lv_icmp_gt (tgt := 29) hx hb dX4_begin_13 (by decide) (fun _ => ?_) (fun c9 => absurd (by decide) c9)
  have hP9 := hP.sub (ws' := [(o, .inr (4, oX4 o_met o_enough x_o)), (o_met, .inl (kJ, 23, .inr (.inl (vp_updL (vp_updL (vp_updL (vp_updL f1 0 1000000000000) 1 0) 2 0) 3 0))))]) [0, 1] rfl
  have hD9 := hD.sub (ws' := [(o, .inr (4, oX4 o_met o_enough x_o)), (o_met, .inl (kJ, 23, .inr (.inl (vp_updL (vp_updL (vp_updL (vp_updL f1 0 1000000000000) 1 0) 2 0) 3 0))))]) [0, 1] (by decide) rfl
  exact W.vret hx hb hr (fun t ht hW => ⟨⟨(), rfl, trivial, vp_updL (vp_updL (vp_updL (vp_updL f1 0 1000000000000) 1 0) 2 0) 3 0, rfl, rfl, rfl, rfl, by rw [ht]; exact hP9, hD9⟩, hS.F ht⟩) hS.2.2 dX4_begin_29
def rm_e4_sendNext_3 : Room := { frames := 0, cells := 0, slots := 0, locals := 0 }
set_option maxHeartbeats 4000000 in
set_option maxRecDepth 100000 in
theorem e4_sendNext_3 (l : Launch) (dC : Nat → ClassId) (dI : Nat → Nat → Nat) (kB kI kJ kZ kC kS : ClassId) (sz : Nat) (o : Nat) (o_met : Nat) (o_enough : Nat) (x_o : Nat → Int32) (f1 : Nat → Int64) : Met l yX4_sendNext wsX4_sendNext rm_e4_sendNext_3 (va_Pc [.ref o, .int 3] (fun U => U.heap.size = sz ∧ va_P (dC, dI) vwCl [(o, .inr (4, oX4 o_met o_enough x_o)), (o_met, .inl (kJ, 23, .inr (.inl f1)))] U.heap ∧ kE dC dI kB kI kJ kZ kC kS U ∧ va_D (fun _ => True) [(o, .inr (4, oX4 o_met o_enough x_o)), (o_met, .inl (kJ, 23, .inr (.inl f1)))])) (va_Qv (fun (_ : Unit) => True) (fun _ t => ∃ (g1 : Nat → Int64), g1 0 = f1 0 * 0 / 3 ∧ g1 1 = f1 1 * 1 / 3 + (f1 0 - f1 0 * 0 / 3) ∧ g1 2 = f1 2 * 2 / 3 + (f1 1 - f1 1 * 1 / 3) ∧ g1 3 = f1 3 + (f1 2 - f1 2 * 2 / 3) ∧ va_P (dC, dI) vwCl [(o, .inr (4, oX4 o_met o_enough x_o)), (o_met, .inl (kJ, 23, .inr (.inl g1)))] t.heap ∧ va_D (va_A [(o, .inr (4, oX4 o_met o_enough x_o)), (o_met, .inl (kJ, 23, .inr (.inl f1)))] sz) [(o, .inr (4, oX4 o_met o_enough x_o)), (o_met, .inl (kJ, 23, .inr (.inl g1)))]) (va_A [(o, .inr (4, oX4 o_met o_enough x_o)), (o_met, .inl (kJ, 23, .inr (.inl f1)))] sz)) 0 0 (va_A [(o, .inr (4, oX4 o_met o_enough x_o)), (o_met, .inl (kJ, 23, .inr (.inl f1)))] sz) := by
  refine Met.ofW (cc := cX4_sendNext) (maxL := 5) (ret := none) (by decide) rfl ?_
  intro p e s m args0 below meth c s₁ B hml hv
  obtain ⟨hargs, hsz, hP, hE, hD0⟩ := hv
  have hx := B.exec
  have hb := B.bytes
  have hr := B.returns
  have hts := atoms_spec (ws := wsX4_sendNext) B.pre
  have hown : s.vm.findClass RX4 = some m.cls := findClass_of_methodNamed B.named
  have hlocks := B.notSynchronized
  have hK := hE.1
  have hin4 : ∀ w ∈ wsX40, w ∈ wsX4_sendNext := fun _ h9 => List.mem_cons_of_mem _ (List.mem_append_right _ h9)
  subst hsz
  have hD := hD0.self (sz := s.heap.size)
  generalize hAe : va_A [(o, .inr (4, oX4 o_met o_enough x_o)), (o_met, .inl (kJ, 23, .inr (.inl f1)))] s.heap.size = A at hD ⊢
  have hA : ∀ q : Nat, s.heap.size ≤ q → A q := fun q h => by rw [← hAe]; exact Or.inr h
  have hS : va_S A s.heap s.heap [] := va_S.rf
  have hP : va_P (dC, dI) vwCl [(o, .inr (4, oX4 o_met o_enough x_o)), (o_met, .inl (kJ, 23, .inr (.inl f1)))] s.heap := hP
  have hl := lv_entry ([.ref o, .int 3]) (n := 5) (Nat.le_of_ble_eq_true rfl)
  have hla : entryFrame m args0 5 = entryFrame m ([.ref o, .int 3] : List Value).toArray 5 := by rw [hargs]
  rw [hla, lg_entry_eq]
  generalize (lg_sl ([.ref o, .int 3]) ++ List.replicate (5 - (lg_sl ([.ref o, .int 3])).length) Slot.unset).toArray = ls at hl ⊢
  have hl : lv_has ls 5 [(0, .ref o), (1, .int 3)] := hl
  refine lv_iload_n hx hb dX4_sendNext_0 rfl (lv_at hl 1 rfl) ?_
  refine lv_iconst (v := 1) hx hb dX4_sendNext_1 (by decide) ?_
  refine lv_icmp_lt (tgt := 14) hx hb dX4_sendNext_2 (by decide) (fun c9 => absurd c9 (by decide)) (fun _ => ?_)
  refine lv_iload_n hx hb dX4_sendNext_5 rfl (lv_at hl 1 rfl) ?_
  refine lv_aload_n hx hb dX4_sendNext_6 rfl (lv_at hl 0 rfl) ?_
  refine va_get (D := (dC, dI)) (ci := 4) (v := .ref o_met) (C := RX4) (T := TX4) (N := 3) hx hb hts hin4 hown hK hP 0 rfl rfl 0 (by decide) (hts (.fieldLink RX4 9 "PathProber$Odds" "met" "[J") (List.mem_of_getElem? (i := 1) (by decide +kernel))) (fun _ h9 => h9) rfl dX4_sendNext_7 ?_
  refine va_alen (v := 23) hx hb hK hP 1 2 rfl rfl rfl dX4_sendNext_10 ?_
  refine lv_icmp_lt (tgt := 15) hx hb dX4_sendNext_11 (by decide) (fun _ => ?_) (fun c9 => absurd (by decide) c9)
  refine lv_iload_n hx hb dX4_sendNext_15 rfl (lv_at hl 1 rfl) ?_
  refine lv_iconst (v := 1) hx hb dX4_sendNext_16 (by decide) ?_
  refine lv_isub hx hb dX4_sendNext_17 ?_
  refine lv_topi (fun z1 e2 => ?_)
  obtain rfl : z1 = (2 : Int32) := e2.trans (by decide)
  refine lv_istore_n (lv' := [(2, .int 2), (0, .ref o), (1, .int 3)]) hx hb dX4_sendNext_18 rfl hl (by decide) rfl (fun ls hl => ?_)
  refine lv_iload_n hx hb dX4_sendNext_19 rfl (lv_at hl 0 rfl) ?_
  refine lv_if_lt (tgt := 68) hx hb dX4_sendNext_20 (by decide) (fun c9 => absurd c9 (by decide)) (fun _ => ?_)
  refine lv_aload_n hx hb dX4_sendNext_23 rfl (lv_at hl 1 rfl) ?_
  refine va_get (D := (dC, dI)) (ci := 4) (v := .ref o_met) (C := RX4) (T := TX4) (N := 3) hx hb hts hin4 hown hK hP 0 rfl rfl 0 (by decide) (hts (.fieldLink RX4 9 "PathProber$Odds" "met" "[J") (List.mem_of_getElem? (i := 1) (by decide +kernel))) (fun _ h9 => h9) rfl dX4_sendNext_24 ?_
  refine lv_iload_n hx hb dX4_sendNext_27 rfl (lv_at hl 0 rfl) ?_
  refine va_lald hx hb hK hP 1 2 rfl rfl (vp_in_nI (n := 2) (by decide) (by decide)) dX4_sendNext_28 ?_
  refine lv_topl (fun z3 e4 => ?_)
  obtain rfl : z3 = (f1 2 : Int64) := e4
  refine lv_iload_n hx hb dX4_sendNext_29 rfl (lv_at hl 0 rfl) ?_
  refine lv_i2l (v := 2) hx hb dX4_sendNext_30 (by decide) ?_
  refine lv_lmul hx hb dX4_sendNext_31 ?_
  refine lv_iload_n hx hb dX4_sendNext_32 rfl (lv_at hl 2 rfl) ?_
  refine lv_i2l (v := 3) hx hb dX4_sendNext_33 (by decide) ?_
  refine lv_ldiv hx hb dX4_sendNext_34 (by decide) ?_
  refine lv_lstore_n (lv' := [(3, .long (((f1 2) * 2) / 3)), (2, .int 2), (0, .ref o), (1, .int 3)]) hx hb dX4_sendNext_35 rfl hl (by decide) rfl (fun ls hl => ?_)
  refine lv_aload_n hx hb dX4_sendNext_36 rfl (lv_at hl 2 rfl) ?_
  refine va_get (D := (dC, dI)) (ci := 4) (v := .ref o_met) (C := RX4) (T := TX4) (N := 3) hx hb hts hin4 hown hK hP 0 rfl rfl 0 (by decide) (hts (.fieldLink RX4 9 "PathProber$Odds" "met" "[J") (List.mem_of_getElem? (i := 1) (by decide +kernel))) (fun _ h9 => h9) rfl dX4_sendNext_37 ?_
  refine lv_iload_n hx hb dX4_sendNext_40 rfl (lv_at hl 1 rfl) ?_
  refine lv_iconst (v := 1) hx hb dX4_sendNext_41 (by decide) ?_
  refine lv_iadd hx hb dX4_sendNext_42 ?_
  refine lv_topi (fun z5 e6 => ?_)
  obtain rfl : z5 = (3 : Int32) := e6.trans (by decide)
  refine lv_dup2_11 hx hb dX4_sendNext_43 rfl rfl ?_
  refine va_lald hx hb hK hP 1 2 rfl rfl (vp_in_nI (n := 3) (by decide) (by decide)) dX4_sendNext_44 ?_
  refine lv_topl (fun z7 e8 => ?_)
  obtain rfl : z7 = (f1 3 : Int64) := e8
  refine lv_aload_n hx hb dX4_sendNext_45 rfl (lv_at hl 2 rfl) ?_
  refine va_get (D := (dC, dI)) (ci := 4) (v := .ref o_met) (C := RX4) (T := TX4) (N := 3) hx hb hts hin4 hown hK hP 0 rfl rfl 0 (by decide) (hts (.fieldLink RX4 9 "PathProber$Odds" "met" "[J") (List.mem_of_getElem? (i := 1) (by decide +kernel))) (fun _ h9 => h9) rfl dX4_sendNext_46 ?_
  refine lv_iload_n hx hb dX4_sendNext_49 rfl (lv_at hl 1 rfl) ?_
  refine va_lald hx hb hK hP 1 2 rfl rfl (vp_in_nI (n := 2) (by decide) (by decide)) dX4_sendNext_50 ?_
  refine lv_topl (fun z9 e10 => ?_)
  obtain rfl : z9 = (f1 2 : Int64) := e10
  refine lv_lload_n hx hb dX4_sendNext_51 rfl (lv_at hl 0 rfl) ?_
  refine lv_lsub hx hb dX4_sendNext_52 ?_
  refine lv_ladd hx hb dX4_sendNext_53 ?_
  refine va_last hx hb hK hP hD hS 1 2 rfl rfl (vp_in_nI (n := 3) (by decide) (by decide)) dX4_sendNext_54 (fun H locs hP hD hS => ?_)
  have hP : va_P (dC, dI) vwCl [(o, .inr (4, oX4 o_met o_enough x_o)), (o_met, .inl (kJ, 23, .inr (.inl (vp_updL f1 3 ((f1 3) + ((f1 2) - (((f1 2) * 2) / 3)))))))] H := hP
  have hD : va_D A [(o, .inr (4, oX4 o_met o_enough x_o)), (o_met, .inl (kJ, 23, .inr (.inl (vp_updL f1 3 ((f1 3) + ((f1 2) - (((f1 2) * 2) / 3)))))))] := hD
  refine lv_aload_n hx hb dX4_sendNext_55 rfl (lv_at hl 2 rfl) ?_
  refine va_get (D := (dC, dI)) (ci := 4) (v := .ref o_met) (C := RX4) (T := TX4) (N := 3) hx hb hts hin4 hown hK hP 0 rfl rfl 0 (by decide) (hts (.fieldLink RX4 9 "PathProber$Odds" "met" "[J") (List.mem_of_getElem? (i := 1) (by decide +kernel))) (fun _ h9 => h9) rfl dX4_sendNext_56 ?_
  refine lv_iload_n hx hb dX4_sendNext_59 rfl (lv_at hl 1 rfl) ?_
  refine lv_lload_n hx hb dX4_sendNext_60 rfl (lv_at hl 0 rfl) ?_
  refine va_last hx hb hK hP hD hS 1 2 rfl rfl (vp_in_nI (n := 2) (by decide) (by decide)) dX4_sendNext_61 (fun H locs hP hD hS => ?_)
  have hP : va_P (dC, dI) vwCl [(o, .inr (4, oX4 o_met o_enough x_o)), (o_met, .inl (kJ, 23, .inr (.inl (vp_updL (vp_updL f1 3 ((f1 3) + ((f1 2) - (((f1 2) * 2) / 3)))) 2 (((f1 2) * 2) / 3)))))] H := hP
  have hD : va_D A [(o, .inr (4, oX4 o_met o_enough x_o)), (o_met, .inl (kJ, 23, .inr (.inl (vp_updL (vp_updL f1 3 ((f1 3) + ((f1 2) - (((f1 2) * 2) / 3)))) 2 (((f1 2) * 2) / 3)))))] := hD
  refine lv_iinc (v := 1) (lv' := [(2, .int 1), (3, .long (((f1 2) * 2) / 3)), (0, .ref o), (1, .int 3)]) hx hb dX4_sendNext_62 hl (k := 1) rfl (by decide) (by decide) rfl (fun ls hl => ?_)
  refine lv_goto (tgt := 19) hx hb dX4_sendNext_65 (by decide) ?_
  refine lv_iload_n hx hb dX4_sendNext_19 rfl (lv_at hl 0 rfl) ?_
  refine lv_if_lt (tgt := 68) hx hb dX4_sendNext_20 (by decide) (fun c9 => absurd c9 (by decide)) (fun _ => ?_)
  refine lv_aload_n hx hb dX4_sendNext_23 rfl (lv_at hl 2 rfl) ?_
  refine va_get (D := (dC, dI)) (ci := 4) (v := .ref o_met) (C := RX4) (T := TX4) (N := 3) hx hb hts hin4 hown hK hP 0 rfl rfl 0 (by decide) (hts (.fieldLink RX4 9 "PathProber$Odds" "met" "[J") (List.mem_of_getElem? (i := 1) (by decide +kernel))) (fun _ h9 => h9) rfl dX4_sendNext_24 ?_
  refine lv_iload_n hx hb dX4_sendNext_27 rfl (lv_at hl 0 rfl) ?_
  refine va_lald hx hb hK hP 1 2 rfl rfl (vp_in_nI (n := 1) (by decide) (by decide)) dX4_sendNext_28 ?_
  refine lv_topl (fun z11 e12 => ?_)
  obtain rfl : z11 = (f1 1 : Int64) := e12
  refine lv_iload_n hx hb dX4_sendNext_29 rfl (lv_at hl 0 rfl) ?_
  refine lv_i2l (v := 1) hx hb dX4_sendNext_30 (by decide) ?_
  refine lv_lmul hx hb dX4_sendNext_31 ?_
  refine lv_iload_n hx hb dX4_sendNext_32 rfl (lv_at hl 3 rfl) ?_
  refine lv_i2l (v := 3) hx hb dX4_sendNext_33 (by decide) ?_
  refine lv_ldiv hx hb dX4_sendNext_34 (by decide) ?_
  refine lv_lstore_n (lv' := [(3, .long (((f1 1) * 1) / 3)), (2, .int 1), (0, .ref o), (1, .int 3)]) hx hb dX4_sendNext_35 rfl hl (by decide) rfl (fun ls hl => ?_)
  refine lv_aload_n hx hb dX4_sendNext_36 rfl (lv_at hl 2 rfl) ?_
  refine va_get (D := (dC, dI)) (ci := 4) (v := .ref o_met) (C := RX4) (T := TX4) (N := 3) hx hb hts hin4 hown hK hP 0 rfl rfl 0 (by decide) (hts (.fieldLink RX4 9 "PathProber$Odds" "met" "[J") (List.mem_of_getElem? (i := 1) (by decide +kernel))) (fun _ h9 => h9) rfl dX4_sendNext_37 ?_
  refine lv_iload_n hx hb dX4_sendNext_40 rfl (lv_at hl 1 rfl) ?_
  refine lv_iconst (v := 1) hx hb dX4_sendNext_41 (by decide) ?_
  refine lv_iadd hx hb dX4_sendNext_42 ?_
  refine lv_topi (fun z13 e14 => ?_)
  obtain rfl : z13 = (2 : Int32) := e14.trans (by decide)
  refine lv_dup2_11 hx hb dX4_sendNext_43 rfl rfl ?_
  refine va_lald hx hb hK hP 1 2 rfl rfl (vp_in_nI (n := 2) (by decide) (by decide)) dX4_sendNext_44 ?_
  refine lv_topl (fun z15 e16 => ?_)
  obtain rfl : z15 = (((f1 2) * 2) / 3 : Int64) := e16
  refine lv_aload_n hx hb dX4_sendNext_45 rfl (lv_at hl 2 rfl) ?_
  refine va_get (D := (dC, dI)) (ci := 4) (v := .ref o_met) (C := RX4) (T := TX4) (N := 3) hx hb hts hin4 hown hK hP 0 rfl rfl 0 (by decide) (hts (.fieldLink RX4 9 "PathProber$Odds" "met" "[J") (List.mem_of_getElem? (i := 1) (by decide +kernel))) (fun _ h9 => h9) rfl dX4_sendNext_46 ?_
  refine lv_iload_n hx hb dX4_sendNext_49 rfl (lv_at hl 1 rfl) ?_
  refine va_lald hx hb hK hP 1 2 rfl rfl (vp_in_nI (n := 1) (by decide) (by decide)) dX4_sendNext_50 ?_
  refine lv_topl (fun z17 e18 => ?_)
  obtain rfl : z17 = (f1 1 : Int64) := e18
  refine lv_lload_n hx hb dX4_sendNext_51 rfl (lv_at hl 0 rfl) ?_
  refine lv_lsub hx hb dX4_sendNext_52 ?_
  refine lv_ladd hx hb dX4_sendNext_53 ?_
  refine va_last hx hb hK hP hD hS 1 2 rfl rfl (vp_in_nI (n := 2) (by decide) (by decide)) dX4_sendNext_54 (fun H locs hP hD hS => ?_)
  have hP : va_P (dC, dI) vwCl [(o, .inr (4, oX4 o_met o_enough x_o)), (o_met, .inl (kJ, 23, .inr (.inl (vp_updL (vp_updL (vp_updL f1 3 ((f1 3) + ((f1 2) - (((f1 2) * 2) / 3)))) 2 (((f1 2) * 2) / 3)) 2 ((((f1 2) * 2) / 3) + ((f1 1) - (((f1 1) * 1) / 3)))))))] H := hP
  have hD : va_D A [(o, .inr (4, oX4 o_met o_enough x_o)), (o_met, .inl (kJ, 23, .inr (.inl (vp_updL (vp_updL (vp_updL f1 3 ((f1 3) + ((f1 2) - (((f1 2) * 2) / 3)))) 2 (((f1 2) * 2) / 3)) 2 ((((f1 2) * 2) / 3) + ((f1 1) - (((f1 1) * 1) / 3)))))))] := hD
  refine lv_aload_n hx hb dX4_sendNext_55 rfl (lv_at hl 2 rfl) ?_
  refine va_get (D := (dC, dI)) (ci := 4) (v := .ref o_met) (C := RX4) (T := TX4) (N := 3) hx hb hts hin4 hown hK hP 0 rfl rfl 0 (by decide) (hts (.fieldLink RX4 9 "PathProber$Odds" "met" "[J") (List.mem_of_getElem? (i := 1) (by decide +kernel))) (fun _ h9 => h9) rfl dX4_sendNext_56 ?_
  refine lv_iload_n hx hb dX4_sendNext_59 rfl (lv_at hl 1 rfl) ?_
  refine lv_lload_n hx hb dX4_sendNext_60 rfl (lv_at hl 0 rfl) ?_
  refine va_last hx hb hK hP hD hS 1 2 rfl rfl (vp_in_nI (n := 1) (by decide) (by decide)) dX4_sendNext_61 (fun H locs hP hD hS => ?_)
  have hP : va_P (dC, dI) vwCl [(o, .inr (4, oX4 o_met o_enough x_o)), (o_met, .inl (kJ, 23, .inr (.inl (vp_updL (vp_updL (vp_updL (vp_updL f1 3 ((f1 3) + ((f1 2) - (((f1 2) * 2) / 3)))) 2 (((f1 2) * 2) / 3)) 2 ((((f1 2) * 2) / 3) + ((f1 1) - (((f1 1) * 1) / 3)))) 1 (((f1 1) * 1) / 3)))))] H := hP
  have hD : va_D A [(o, .inr (4, oX4 o_met o_enough x_o)), (o_met, .inl (kJ, 23, .inr (.inl (vp_updL (vp_updL (vp_updL (vp_updL f1 3 ((f1 3) + ((f1 2) - (((f1 2) * 2) / 3)))) 2 (((f1 2) * 2) / 3)) 2 ((((f1 2) * 2) / 3) + ((f1 1) - (((f1 1) * 1) / 3)))) 1 (((f1 1) * 1) / 3)))))] := hD
  refine lv_iinc (v := 0) (lv' := [(2, .int 0), (3, .long (((f1 1) * 1) / 3)), (0, .ref o), (1, .int 3)]) hx hb dX4_sendNext_62 hl (k := 1) rfl (by decide) (by decide) rfl (fun ls hl => ?_)
  refine lv_goto (tgt := 19) hx hb dX4_sendNext_65 (by decide) ?_
  refine lv_iload_n hx hb dX4_sendNext_19 rfl (lv_at hl 0 rfl) ?_
  refine lv_if_lt (tgt := 68) hx hb dX4_sendNext_20 (by decide) (fun c9 => absurd c9 (by decide)) (fun _ => ?_)
  refine lv_aload_n hx hb dX4_sendNext_23 rfl (lv_at hl 2 rfl) ?_
  refine va_get (D := (dC, dI)) (ci := 4) (v := .ref o_met) (C := RX4) (T := TX4) (N := 3) hx hb hts hin4 hown hK hP 0 rfl rfl 0 (by decide) (hts (.fieldLink RX4 9 "PathProber$Odds" "met" "[J") (List.mem_of_getElem? (i := 1) (by decide +kernel))) (fun _ h9 => h9) rfl dX4_sendNext_24 ?_
  refine lv_iload_n hx hb dX4_sendNext_27 rfl (lv_at hl 0 rfl) ?_
  refine va_lald hx hb hK hP 1 2 rfl rfl (vp_in_nI (n := 0) (by decide) (by decide)) dX4_sendNext_28 ?_
  refine lv_topl (fun z19 e20 => ?_)
  obtain rfl : z19 = (f1 0 : Int64) := e20
  refine lv_iload_n hx hb dX4_sendNext_29 rfl (lv_at hl 0 rfl) ?_
  refine lv_i2l (v := 0) hx hb dX4_sendNext_30 (by decide) ?_
  refine lv_lmul hx hb dX4_sendNext_31 ?_
  refine lv_iload_n hx hb dX4_sendNext_32 rfl (lv_at hl 3 rfl) ?_
  refine lv_i2l (v := 3) hx hb dX4_sendNext_33 (by decide) ?_
  refine lv_ldiv hx hb dX4_sendNext_34 (by decide) ?_
  refine lv_lstore_n (lv' := [(3, .long (((f1 0) * 0) / 3)), (2, .int 0), (0, .ref o), (1, .int 3)]) hx hb dX4_sendNext_35 rfl hl (by decide) rfl (fun ls hl => ?_)
  refine lv_aload_n hx hb dX4_sendNext_36 rfl (lv_at hl 2 rfl) ?_
  refine va_get (D := (dC, dI)) (ci := 4) (v := .ref o_met) (C := RX4) (T := TX4) (N := 3) hx hb hts hin4 hown hK hP 0 rfl rfl 0 (by decide) (hts (.fieldLink RX4 9 "PathProber$Odds" "met" "[J") (List.mem_of_getElem? (i := 1) (by decide +kernel))) (fun _ h9 => h9) rfl dX4_sendNext_37 ?_
  refine lv_iload_n hx hb dX4_sendNext_40 rfl (lv_at hl 1 rfl) ?_
  refine lv_iconst (v := 1) hx hb dX4_sendNext_41 (by decide) ?_
  refine lv_iadd hx hb dX4_sendNext_42 ?_
  refine lv_topi (fun z21 e22 => ?_)
  obtain rfl : z21 = (1 : Int32) := e22.trans (by decide)
  refine lv_dup2_11 hx hb dX4_sendNext_43 rfl rfl ?_
  refine va_lald hx hb hK hP 1 2 rfl rfl (vp_in_nI (n := 1) (by decide) (by decide)) dX4_sendNext_44 ?_
  refine lv_topl (fun z23 e24 => ?_)
  obtain rfl : z23 = (((f1 1) * 1) / 3 : Int64) := e24
  refine lv_aload_n hx hb dX4_sendNext_45 rfl (lv_at hl 2 rfl) ?_
  refine va_get (D := (dC, dI)) (ci := 4) (v := .ref o_met) (C := RX4) (T := TX4) (N := 3) hx hb hts hin4 hown hK hP 0 rfl rfl 0 (by decide) (hts (.fieldLink RX4 9 "PathProber$Odds" "met" "[J") (List.mem_of_getElem? (i := 1) (by decide +kernel))) (fun _ h9 => h9) rfl dX4_sendNext_46 ?_
  refine lv_iload_n hx hb dX4_sendNext_49 rfl (lv_at hl 1 rfl) ?_
  refine va_lald hx hb hK hP 1 2 rfl rfl (vp_in_nI (n := 0) (by decide) (by decide)) dX4_sendNext_50 ?_
  refine lv_topl (fun z25 e26 => ?_)
  obtain rfl : z25 = (f1 0 : Int64) := e26
  refine lv_lload_n hx hb dX4_sendNext_51 rfl (lv_at hl 0 rfl) ?_
  refine lv_lsub hx hb dX4_sendNext_52 ?_
  refine lv_ladd hx hb dX4_sendNext_53 ?_
  refine va_last hx hb hK hP hD hS 1 2 rfl rfl (vp_in_nI (n := 1) (by decide) (by decide)) dX4_sendNext_54 (fun H locs hP hD hS => ?_)
  have hP : va_P (dC, dI) vwCl [(o, .inr (4, oX4 o_met o_enough x_o)), (o_met, .inl (kJ, 23, .inr (.inl (vp_updL (vp_updL (vp_updL (vp_updL (vp_updL f1 3 ((f1 3) + ((f1 2) - (((f1 2) * 2) / 3)))) 2 (((f1 2) * 2) / 3)) 2 ((((f1 2) * 2) / 3) + ((f1 1) - (((f1 1) * 1) / 3)))) 1 (((f1 1) * 1) / 3)) 1 ((((f1 1) * 1) / 3) + ((f1 0) - (((f1 0) * 0) / 3)))))))] H := hP
  have hD : va_D A [(o, .inr (4, oX4 o_met o_enough x_o)), (o_met, .inl (kJ, 23, .inr (.inl (vp_updL (vp_updL (vp_updL (vp_updL (vp_updL f1 3 ((f1 3) + ((f1 2) - (((f1 2) * 2) / 3)))) 2 (((f1 2) * 2) / 3)) 2 ((((f1 2) * 2) / 3) + ((f1 1) - (((f1 1) * 1) / 3)))) 1 (((f1 1) * 1) / 3)) 1 ((((f1 1) * 1) / 3) + ((f1 0) - (((f1 0) * 0) / 3)))))))] := hD
  refine lv_aload_n hx hb dX4_sendNext_55 rfl (lv_at hl 2 rfl) ?_
  refine va_get (D := (dC, dI)) (ci := 4) (v := .ref o_met) (C := RX4) (T := TX4) (N := 3) hx hb hts hin4 hown hK hP 0 rfl rfl 0 (by decide) (hts (.fieldLink RX4 9 "PathProber$Odds" "met" "[J") (List.mem_of_getElem? (i := 1) (by decide +kernel))) (fun _ h9 => h9) rfl dX4_sendNext_56 ?_
  refine lv_iload_n hx hb dX4_sendNext_59 rfl (lv_at hl 1 rfl) ?_
  refine lv_lload_n hx hb dX4_sendNext_60 rfl (lv_at hl 0 rfl) ?_
  refine va_last hx hb hK hP hD hS 1 2 rfl rfl (vp_in_nI (n := 0) (by decide) (by decide)) dX4_sendNext_61 (fun H locs hP hD hS => ?_)
  have hP : va_P (dC, dI) vwCl [(o, .inr (4, oX4 o_met o_enough x_o)), (o_met, .inl (kJ, 23, .inr (.inl (vp_updL (vp_updL (vp_updL (vp_updL (vp_updL (vp_updL f1 3 ((f1 3) + ((f1 2) - (((f1 2) * 2) / 3)))) 2 (((f1 2) * 2) / 3)) 2 ((((f1 2) * 2) / 3) + ((f1 1) - (((f1 1) * 1) / 3)))) 1 (((f1 1) * 1) / 3)) 1 ((((f1 1) * 1) / 3) + ((f1 0) - (((f1 0) * 0) / 3)))) 0 (((f1 0) * 0) / 3)))))] H := hP
  have hD : va_D A [(o, .inr (4, oX4 o_met o_enough x_o)), (o_met, .inl (kJ, 23, .inr (.inl (vp_updL (vp_updL (vp_updL (vp_updL (vp_updL (vp_updL f1 3 ((f1 3) + ((f1 2) - (((f1 2) * 2) / 3)))) 2 (((f1 2) * 2) / 3)) 2 ((((f1 2) * 2) / 3) + ((f1 1) - (((f1 1) * 1) / 3)))) 1 (((f1 1) * 1) / 3)) 1 ((((f1 1) * 1) / 3) + ((f1 0) - (((f1 0) * 0) / 3)))) 0 (((f1 0) * 0) / 3)))))] := hD
  refine lv_iinc (v := (-1)) (lv' := [(2, .int (-1)), (3, .long (((f1 0) * 0) / 3)), (0, .ref o), (1, .int 3)]) hx hb dX4_sendNext_62 hl (k := 1) rfl (by decide) (by decide) rfl (fun ls hl => ?_)
  refine lv_goto (tgt := 19) hx hb dX4_sendNext_65 (by decide) ?_
  refine lv_iload_n hx hb dX4_sendNext_19 rfl (lv_at hl 0 rfl) ?_
  refine lv_if_lt (tgt := 68) hx hb dX4_sendNext_20 (by decide) (fun _ => ?_) (fun c9 => absurd (by decide) c9)
  have hP9 := hP.sub (ws' := [(o, .inr (4, oX4 o_met o_enough x_o)), (o_met, .inl (kJ, 23, .inr (.inl (vp_updL (vp_updL (vp_updL (vp_updL (vp_updL (vp_updL f1 3 ((f1 3) + ((f1 2) - (((f1 2) * 2) / 3)))) 2 (((f1 2) * 2) / 3)) 2 ((((f1 2) * 2) / 3) + ((f1 1) - (((f1 1) * 1) / 3)))) 1 (((f1 1) * 1) / 3)) 1 ((((f1 1) * 1) / 3) + ((f1 0) - (((f1 0) * 0) / 3)))) 0 (((f1 0) * 0) / 3)))))]) [0, 1] rfl
  have hD9 := hD.sub (ws' := [(o, .inr (4, oX4 o_met o_enough x_o)), (o_met, .inl (kJ, 23, .inr (.inl (vp_updL (vp_updL (vp_updL (vp_updL (vp_updL (vp_updL f1 3 ((f1 3) + ((f1 2) - (((f1 2) * 2) / 3)))) 2 (((f1 2) * 2) / 3)) 2 ((((f1 2) * 2) / 3) + ((f1 1) - (((f1 1) * 1) / 3)))) 1 (((f1 1) * 1) / 3)) 1 ((((f1 1) * 1) / 3) + ((f1 0) - (((f1 0) * 0) / 3)))) 0 (((f1 0) * 0) / 3)))))]) [0, 1] (by decide) rfl
  exact W.vret hx hb hr (fun t ht hW => ⟨⟨(), rfl, trivial, vp_updL (vp_updL (vp_updL (vp_updL (vp_updL (vp_updL f1 3 ((f1 3) + ((f1 2) - (((f1 2) * 2) / 3)))) 2 (((f1 2) * 2) / 3)) 2 ((((f1 2) * 2) / 3) + ((f1 1) - (((f1 1) * 1) / 3)))) 1 (((f1 1) * 1) / 3)) 1 ((((f1 1) * 1) / 3) + ((f1 0) - (((f1 0) * 0) / 3)))) 0 (((f1 0) * 0) / 3), rfl, rfl, rfl, rfl, by rw [ht]; exact hP9, hD9⟩, hS.F ht⟩) hS.2.2 dX4_sendNext_68
def rm_e4_begin_4 : Room := { frames := 0, cells := 0, slots := 0, locals := 0 }
set_option maxHeartbeats 4000000 in
set_option maxRecDepth 100000 in
theorem e4_begin_4 (l : Launch) (dC : Nat → ClassId) (dI : Nat → Nat → Nat) (kB kI kJ kZ kC kS : ClassId) (sz : Nat) (o : Nat) (o_met : Nat) (o_enough : Nat) (x_o : Nat → Int32) (f1 : Nat → Int64) : Met l yX4_begin wsX4_begin rm_e4_begin_4 (va_Pc [.ref o, .int 4] (fun U => U.heap.size = sz ∧ va_P (dC, dI) vwCl [(o, .inr (4, oX4 o_met o_enough x_o)), (o_met, .inl (kJ, 23, .inr (.inl f1)))] U.heap ∧ kE dC dI kB kI kJ kZ kC kS U ∧ va_D (fun _ => True) [(o, .inr (4, oX4 o_met o_enough x_o)), (o_met, .inl (kJ, 23, .inr (.inl f1)))])) (va_Qv (fun (_ : Unit) => True) (fun _ t => ∃ (g1 : Nat → Int64), g1 0 = kv4 0 0 ∧ g1 1 = kv4 0 1 ∧ g1 2 = kv4 0 2 ∧ g1 3 = kv4 0 3 ∧ g1 4 = kv4 0 4 ∧ va_P (dC, dI) vwCl [(o, .inr (4, oX4 o_met o_enough x_o)), (o_met, .inl (kJ, 23, .inr (.inl g1)))] t.heap ∧ va_D (va_A [(o, .inr (4, oX4 o_met o_enough x_o)), (o_met, .inl (kJ, 23, .inr (.inl f1)))] sz) [(o, .inr (4, oX4 o_met o_enough x_o)), (o_met, .inl (kJ, 23, .inr (.inl g1)))]) (va_A [(o, .inr (4, oX4 o_met o_enough x_o)), (o_met, .inl (kJ, 23, .inr (.inl f1)))] sz)) 0 0 (va_A [(o, .inr (4, oX4 o_met o_enough x_o)), (o_met, .inl (kJ, 23, .inr (.inl f1)))] sz) := by
  refine Met.ofW (cc := cX4_begin) (maxL := 3) (ret := none) (by decide) rfl ?_
  intro p e s m args0 below meth c s₁ B hml hv
  obtain ⟨hargs, hsz, hP, hE, hD0⟩ := hv
  have hx := B.exec
  have hb := B.bytes
  have hr := B.returns
  have hts := atoms_spec (ws := wsX4_begin) B.pre
  have hown : s.vm.findClass RX4 = some m.cls := findClass_of_methodNamed B.named
  have hlocks := B.notSynchronized
  have hK := hE.1
  have hin4 : ∀ w ∈ wsX40, w ∈ wsX4_begin := fun _ h9 => List.mem_cons_of_mem _ (List.mem_append_right _ h9)
  subst hsz
  have hD := hD0.self (sz := s.heap.size)
  generalize hAe : va_A [(o, .inr (4, oX4 o_met o_enough x_o)), (o_met, .inl (kJ, 23, .inr (.inl f1)))] s.heap.size = A at hD ⊢
  have hA : ∀ q : Nat, s.heap.size ≤ q → A q := fun q h => by rw [← hAe]; exact Or.inr h
  have hS : va_S A s.heap s.heap [] := va_S.rf
  have hP : va_P (dC, dI) vwCl [(o, .inr (4, oX4 o_met o_enough x_o)), (o_met, .inl (kJ, 23, .inr (.inl f1)))] s.heap := hP
  have hl := lv_entry ([.ref o, .int 4]) (n := 3) (Nat.le_of_ble_eq_true rfl)
  have hla : entryFrame m args0 3 = entryFrame m ([.ref o, .int 4] : List Value).toArray 3 := by rw [hargs]
  rw [hla, lg_entry_eq]
  generalize (lg_sl ([.ref o, .int 4]) ++ List.replicate (3 - (lg_sl ([.ref o, .int 4])).length) Slot.unset).toArray = ls at hl ⊢
  have hl : lv_has ls 3 [(0, .ref o), (1, .int 4)] := hl
  refine lv_aload_n hx hb dX4_begin_0 rfl (lv_at hl 0 rfl) ?_
  refine va_get (D := (dC, dI)) (ci := 4) (v := .ref o_met) (C := RX4) (T := TX4) (N := 3) hx hb hts hin4 hown hK hP 0 rfl rfl 0 (by decide) (hts (.fieldLink RX4 9 "PathProber$Odds" "met" "[J") (List.mem_of_getElem? (i := 1) (by decide +kernel))) (fun _ h9 => h9) rfl dX4_begin_1 ?_
  refine lv_iconst (v := 0) hx hb dX4_begin_4 (by decide) ?_
  refine lv_ldc2 hx hb hown (hts (.constantLong RX4 23 (1000000000000)) (List.mem_of_getElem? (i := 2) (by decide +kernel))) dX4_begin_5 ?_
  refine va_last hx hb hK hP hD hS 1 2 rfl rfl (vp_in_nI (n := 0) (by decide) (by decide)) dX4_begin_8 (fun H locs hP hD hS => ?_)
  have hP : va_P (dC, dI) vwCl [(o, .inr (4, oX4 o_met o_enough x_o)), (o_met, .inl (kJ, 23, .inr (.inl (vp_updL f1 0 1000000000000))))] H := hP
  have hD : va_D A [(o, .inr (4, oX4 o_met o_enough x_o)), (o_met, .inl (kJ, 23, .inr (.inl (vp_updL f1 0 1000000000000))))] := hD
  refine lv_iconst (v := 1) hx hb dX4_begin_9 (by decide) ?_
  refine lv_istore_n (lv' := [(2, .int 1), (0, .ref o), (1, .int 4)]) hx hb dX4_begin_10 rfl hl (by decide) rfl (fun ls hl => ?_)
  refine lv_iload_n hx hb dX4_begin_11 rfl (lv_at hl 0 rfl) ?_
  refine lv_iload_n hx hb dX4_begin_12 rfl (lv_at hl 2 rfl) ?_
  refine lv_icmp_gt (tgt := 29) hx hb dX4_begin_13 (by decide) (fun c9 => absurd c9 (by decide)) (fun _ => ?_)
  refine lv_aload_n hx hb dX4_begin_16 rfl (lv_at hl 1 rfl) ?_
  refine va_get (D := (dC, dI)) (ci := 4) (v := .ref o_met) (C := RX4) (T := TX4) (N := 3) hx hb hts hin4 hown hK hP 0 rfl rfl 0 (by decide) (hts (.fieldLink RX4 9 "PathProber$Odds" "met" "[J") (List.mem_of_getElem? (i := 1) (by decide +kernel))) (fun _ h9 => h9) rfl dX4_begin_17 ?_
  refine lv_iload_n hx hb dX4_begin_20 rfl (lv_at hl 0 rfl) ?_
  refine lv_lconst (v := 0) hx hb dX4_begin_21 (by decide) ?_
  refine va_last hx hb hK hP hD hS 1 2 rfl rfl (vp_in_nI (n := 1) (by decide) (by decide)) dX4_begin_22 (fun H locs hP hD hS => ?_)
  have hP : va_P (dC, dI) vwCl [(o, .inr (4, oX4 o_met o_enough x_o)), (o_met, .inl (kJ, 23, .inr (.inl (vp_updL (vp_updL f1 0 1000000000000) 1 0))))] H := hP
  have hD : va_D A [(o, .inr (4, oX4 o_met o_enough x_o)), (o_met, .inl (kJ, 23, .inr (.inl (vp_updL (vp_updL f1 0 1000000000000) 1 0))))] := hD
  refine lv_iinc (v := 2) (lv' := [(2, .int 2), (0, .ref o), (1, .int 4)]) hx hb dX4_begin_23 hl (k := 0) rfl (by decide) (by decide) rfl (fun ls hl => ?_)
  refine lv_goto (tgt := 11) hx hb dX4_begin_26 (by decide) ?_
  refine lv_iload_n hx hb dX4_begin_11 rfl (lv_at hl 0 rfl) ?_
  refine lv_iload_n hx hb dX4_begin_12 rfl (lv_at hl 2 rfl) ?_
  refine lv_icmp_gt (tgt := 29) hx hb dX4_begin_13 (by decide) (fun c9 => absurd c9 (by decide)) (fun _ => ?_)
  refine lv_aload_n hx hb dX4_begin_16 rfl (lv_at hl 1 rfl) ?_
  refine va_get (D := (dC, dI)) (ci := 4) (v := .ref o_met) (C := RX4) (T := TX4) (N := 3) hx hb hts hin4 hown hK hP 0 rfl rfl 0 (by decide) (hts (.fieldLink RX4 9 "PathProber$Odds" "met" "[J") (List.mem_of_getElem? (i := 1) (by decide +kernel))) (fun _ h9 => h9) rfl dX4_begin_17 ?_
  refine lv_iload_n hx hb dX4_begin_20 rfl (lv_at hl 0 rfl) ?_
  refine lv_lconst (v := 0) hx hb dX4_begin_21 (by decide) ?_
  refine va_last hx hb hK hP hD hS 1 2 rfl rfl (vp_in_nI (n := 2) (by decide) (by decide)) dX4_begin_22 (fun H locs hP hD hS => ?_)
  have hP : va_P (dC, dI) vwCl [(o, .inr (4, oX4 o_met o_enough x_o)), (o_met, .inl (kJ, 23, .inr (.inl (vp_updL (vp_updL (vp_updL f1 0 1000000000000) 1 0) 2 0))))] H := hP
  have hD : va_D A [(o, .inr (4, oX4 o_met o_enough x_o)), (o_met, .inl (kJ, 23, .inr (.inl (vp_updL (vp_updL (vp_updL f1 0 1000000000000) 1 0) 2 0))))] := hD
  refine lv_iinc (v := 3) (lv' := [(2, .int 3), (0, .ref o), (1, .int 4)]) hx hb dX4_begin_23 hl (k := 0) rfl (by decide) (by decide) rfl (fun ls hl => ?_)
  refine lv_goto (tgt := 11) hx hb dX4_begin_26 (by decide) ?_
  refine lv_iload_n hx hb dX4_begin_11 rfl (lv_at hl 0 rfl) ?_
  refine lv_iload_n hx hb dX4_begin_12 rfl (lv_at hl 2 rfl) ?_
  refine lv_icmp_gt (tgt := 29) hx hb dX4_begin_13 (by decide) (fun c9 => absurd c9 (by decide)) (fun _ => ?_)
  refine lv_aload_n hx hb dX4_begin_16 rfl (lv_at hl 1 rfl) ?_
  refine va_get (D := (dC, dI)) (ci := 4) (v := .ref o_met) (C := RX4) (T := TX4) (N := 3) hx hb hts hin4 hown hK hP 0 rfl rfl 0 (by decide) (hts (.fieldLink RX4 9 "PathProber$Odds" "met" "[J") (List.mem_of_getElem? (i := 1) (by decide +kernel))) (fun _ h9 => h9) rfl dX4_begin_17 ?_
  refine lv_iload_n hx hb dX4_begin_20 rfl (lv_at hl 0 rfl) ?_
  refine lv_lconst (v := 0) hx hb dX4_begin_21 (by decide) ?_
  refine va_last hx hb hK hP hD hS 1 2 rfl rfl (vp_in_nI (n := 3) (by decide) (by decide)) dX4_begin_22 (fun H locs hP hD hS => ?_)
  have hP : va_P (dC, dI) vwCl [(o, .inr (4, oX4 o_met o_enough x_o)), (o_met, .inl (kJ, 23, .inr (.inl (vp_updL (vp_updL (vp_updL (vp_updL f1 0 1000000000000) 1 0) 2 0) 3 0))))] H := hP
  have hD : va_D A [(o, .inr (4, oX4 o_met o_enough x_o)), (o_met, .inl (kJ, 23, .inr (.inl (vp_updL (vp_updL (vp_updL (vp_updL f1 0 1000000000000) 1 0) 2 0) 3 0))))] := hD
  refine lv_iinc (v := 4) (lv' := [(2, .int 4), (0, .ref o), (1, .int 4)]) hx hb dX4_begin_23 hl (k := 0) rfl (by decide) (by decide) rfl (fun ls hl => ?_)
  refine lv_goto (tgt := 11) hx hb dX4_begin_26 (by decide) ?_
  refine lv_iload_n hx hb dX4_begin_11 rfl (lv_at hl 0 rfl) ?_
  refine lv_iload_n hx hb dX4_begin_12 rfl (lv_at hl 2 rfl) ?_
  refine lv_icmp_gt (tgt := 29) hx hb dX4_begin_13 (by decide) (fun c9 => absurd c9 (by decide)) (fun _ => ?_)
  refine lv_aload_n hx hb dX4_begin_16 rfl (lv_at hl 1 rfl) ?_
  refine va_get (D := (dC, dI)) (ci := 4) (v := .ref o_met) (C := RX4) (T := TX4) (N := 3) hx hb hts hin4 hown hK hP 0 rfl rfl 0 (by decide) (hts (.fieldLink RX4 9 "PathProber$Odds" "met" "[J") (List.mem_of_getElem? (i := 1) (by decide +kernel))) (fun _ h9 => h9) rfl dX4_begin_17 ?_
  refine lv_iload_n hx hb dX4_begin_20 rfl (lv_at hl 0 rfl) ?_
  refine lv_lconst (v := 0) hx hb dX4_begin_21 (by decide) ?_
  refine va_last hx hb hK hP hD hS 1 2 rfl rfl (vp_in_nI (n := 4) (by decide) (by decide)) dX4_begin_22 (fun H locs hP hD hS => ?_)
  have hP : va_P (dC, dI) vwCl [(o, .inr (4, oX4 o_met o_enough x_o)), (o_met, .inl (kJ, 23, .inr (.inl (vp_updL (vp_updL (vp_updL (vp_updL (vp_updL f1 0 1000000000000) 1 0) 2 0) 3 0) 4 0))))] H := hP
  have hD : va_D A [(o, .inr (4, oX4 o_met o_enough x_o)), (o_met, .inl (kJ, 23, .inr (.inl (vp_updL (vp_updL (vp_updL (vp_updL (vp_updL f1 0 1000000000000) 1 0) 2 0) 3 0) 4 0))))] := hD
  refine lv_iinc (v := 5) (lv' := [(2, .int 5), (0, .ref o), (1, .int 4)]) hx hb dX4_begin_23 hl (k := 0) rfl (by decide) (by decide) rfl (fun ls hl => ?_)
  refine lv_goto (tgt := 11) hx hb dX4_begin_26 (by decide) ?_
  refine lv_iload_n hx hb dX4_begin_11 rfl (lv_at hl 0 rfl) ?_
  refine lv_iload_n hx hb dX4_begin_12 rfl (lv_at hl 2 rfl) ?_
  refine lv_icmp_gt (tgt := 29) hx hb dX4_begin_13 (by decide) (fun _ => ?_) (fun c9 => absurd (by decide) c9)
  have hP9 := hP.sub (ws' := [(o, .inr (4, oX4 o_met o_enough x_o)), (o_met, .inl (kJ, 23, .inr (.inl (vp_updL (vp_updL (vp_updL (vp_updL (vp_updL f1 0 1000000000000) 1 0) 2 0) 3 0) 4 0))))]) [0, 1] rfl
  have hD9 := hD.sub (ws' := [(o, .inr (4, oX4 o_met o_enough x_o)), (o_met, .inl (kJ, 23, .inr (.inl (vp_updL (vp_updL (vp_updL (vp_updL (vp_updL f1 0 1000000000000) 1 0) 2 0) 3 0) 4 0))))]) [0, 1] (by decide) rfl
  exact W.vret hx hb hr (fun t ht hW => ⟨⟨(), rfl, trivial, vp_updL (vp_updL (vp_updL (vp_updL (vp_updL f1 0 1000000000000) 1 0) 2 0) 3 0) 4 0, rfl, rfl, rfl, rfl, rfl, by rw [ht]; exact hP9, hD9⟩, hS.F ht⟩) hS.2.2 dX4_begin_29
def rm_e4_sendNext_4 : Room := { frames := 0, cells := 0, slots := 0, locals := 0 }
set_option maxHeartbeats 4000000 in
set_option maxRecDepth 100000 in
theorem e4_sendNext_4 (l : Launch) (dC : Nat → ClassId) (dI : Nat → Nat → Nat) (kB kI kJ kZ kC kS : ClassId) (sz : Nat) (o : Nat) (o_met : Nat) (o_enough : Nat) (x_o : Nat → Int32) (f1 : Nat → Int64) : Met l yX4_sendNext wsX4_sendNext rm_e4_sendNext_4 (va_Pc [.ref o, .int 4] (fun U => U.heap.size = sz ∧ va_P (dC, dI) vwCl [(o, .inr (4, oX4 o_met o_enough x_o)), (o_met, .inl (kJ, 23, .inr (.inl f1)))] U.heap ∧ kE dC dI kB kI kJ kZ kC kS U ∧ va_D (fun _ => True) [(o, .inr (4, oX4 o_met o_enough x_o)), (o_met, .inl (kJ, 23, .inr (.inl f1)))])) (va_Qv (fun (_ : Unit) => True) (fun _ t => ∃ (g1 : Nat → Int64), g1 0 = f1 0 * 0 / 4 ∧ g1 1 = f1 1 * 1 / 4 + (f1 0 - f1 0 * 0 / 4) ∧ g1 2 = f1 2 * 2 / 4 + (f1 1 - f1 1 * 1 / 4) ∧ g1 3 = f1 3 * 3 / 4 + (f1 2 - f1 2 * 2 / 4) ∧ g1 4 = f1 4 + (f1 3 - f1 3 * 3 / 4) ∧ va_P (dC, dI) vwCl [(o, .inr (4, oX4 o_met o_enough x_o)), (o_met, .inl (kJ, 23, .inr (.inl g1)))] t.heap ∧ va_D (va_A [(o, .inr (4, oX4 o_met o_enough x_o)), (o_met, .inl (kJ, 23, .inr (.inl f1)))] sz) [(o, .inr (4, oX4 o_met o_enough x_o)), (o_met, .inl (kJ, 23, .inr (.inl g1)))]) (va_A [(o, .inr (4, oX4 o_met o_enough x_o)), (o_met, .inl (kJ, 23, .inr (.inl f1)))] sz)) 0 0 (va_A [(o, .inr (4, oX4 o_met o_enough x_o)), (o_met, .inl (kJ, 23, .inr (.inl f1)))] sz) := by
  refine Met.ofW (cc := cX4_sendNext) (maxL := 5) (ret := none) (by decide) rfl ?_
  intro p e s m args0 below meth c s₁ B hml hv
  obtain ⟨hargs, hsz, hP, hE, hD0⟩ := hv
  have hx := B.exec
  have hb := B.bytes
  have hr := B.returns
  have hts := atoms_spec (ws := wsX4_sendNext) B.pre
  have hown : s.vm.findClass RX4 = some m.cls := findClass_of_methodNamed B.named
  have hlocks := B.notSynchronized
  have hK := hE.1
  have hin4 : ∀ w ∈ wsX40, w ∈ wsX4_sendNext := fun _ h9 => List.mem_cons_of_mem _ (List.mem_append_right _ h9)
  subst hsz
  have hD := hD0.self (sz := s.heap.size)
  generalize hAe : va_A [(o, .inr (4, oX4 o_met o_enough x_o)), (o_met, .inl (kJ, 23, .inr (.inl f1)))] s.heap.size = A at hD ⊢
  have hA : ∀ q : Nat, s.heap.size ≤ q → A q := fun q h => by rw [← hAe]; exact Or.inr h
  have hS : va_S A s.heap s.heap [] := va_S.rf
  have hP : va_P (dC, dI) vwCl [(o, .inr (4, oX4 o_met o_enough x_o)), (o_met, .inl (kJ, 23, .inr (.inl f1)))] s.heap := hP
  have hl := lv_entry ([.ref o, .int 4]) (n := 5) (Nat.le_of_ble_eq_true rfl)
  have hla : entryFrame m args0 5 = entryFrame m ([.ref o, .int 4] : List Value).toArray 5 := by rw [hargs]
  rw [hla, lg_entry_eq]
  generalize (lg_sl ([.ref o, .int 4]) ++ List.replicate (5 - (lg_sl ([.ref o, .int 4])).length) Slot.unset).toArray = ls at hl ⊢
  have hl : lv_has ls 5 [(0, .ref o), (1, .int 4)] := hl
  refine lv_iload_n hx hb dX4_sendNext_0 rfl (lv_at hl 1 rfl) ?_
  refine lv_iconst (v := 1) hx hb dX4_sendNext_1 (by decide) ?_
  refine lv_icmp_lt (tgt := 14) hx hb dX4_sendNext_2 (by decide) (fun c9 => absurd c9 (by decide)) (fun _ => ?_)
  refine lv_iload_n hx hb dX4_sendNext_5 rfl (lv_at hl 1 rfl) ?_
  refine lv_aload_n hx hb dX4_sendNext_6 rfl (lv_at hl 0 rfl) ?_
  refine va_get (D := (dC, dI)) (ci := 4) (v := .ref o_met) (C := RX4) (T := TX4) (N := 3) hx hb hts hin4 hown hK hP 0 rfl rfl 0 (by decide) (hts (.fieldLink RX4 9 "PathProber$Odds" "met" "[J") (List.mem_of_getElem? (i := 1) (by decide +kernel))) (fun _ h9 => h9) rfl dX4_sendNext_7 ?_
  refine va_alen (v := 23) hx hb hK hP 1 2 rfl rfl rfl dX4_sendNext_10 ?_
  refine lv_icmp_lt (tgt := 15) hx hb dX4_sendNext_11 (by decide) (fun _ => ?_) (fun c9 => absurd (by decide) c9)
  refine lv_iload_n hx hb dX4_sendNext_15 rfl (lv_at hl 1 rfl) ?_
  refine lv_iconst (v := 1) hx hb dX4_sendNext_16 (by decide) ?_
  refine lv_isub hx hb dX4_sendNext_17 ?_
  refine lv_topi (fun z1 e2 => ?_)
  obtain rfl : z1 = (3 : Int32) := e2.trans (by decide)
  refine lv_istore_n (lv' := [(2, .int 3), (0, .ref o), (1, .int 4)]) hx hb dX4_sendNext_18 rfl hl (by decide) rfl (fun ls hl => ?_)
  refine lv_iload_n hx hb dX4_sendNext_19 rfl (lv_at hl 0 rfl) ?_
  refine lv_if_lt (tgt := 68) hx hb dX4_sendNext_20 (by decide) (fun c9 => absurd c9 (by decide)) (fun _ => ?_)
  refine lv_aload_n hx hb dX4_sendNext_23 rfl (lv_at hl 1 rfl) ?_
  refine va_get (D := (dC, dI)) (ci := 4) (v := .ref o_met) (C := RX4) (T := TX4) (N := 3) hx hb hts hin4 hown hK hP 0 rfl rfl 0 (by decide) (hts (.fieldLink RX4 9 "PathProber$Odds" "met" "[J") (List.mem_of_getElem? (i := 1) (by decide +kernel))) (fun _ h9 => h9) rfl dX4_sendNext_24 ?_
  refine lv_iload_n hx hb dX4_sendNext_27 rfl (lv_at hl 0 rfl) ?_
  refine va_lald hx hb hK hP 1 2 rfl rfl (vp_in_nI (n := 3) (by decide) (by decide)) dX4_sendNext_28 ?_
  refine lv_topl (fun z3 e4 => ?_)
  obtain rfl : z3 = (f1 3 : Int64) := e4
  refine lv_iload_n hx hb dX4_sendNext_29 rfl (lv_at hl 0 rfl) ?_
  refine lv_i2l (v := 3) hx hb dX4_sendNext_30 (by decide) ?_
  refine lv_lmul hx hb dX4_sendNext_31 ?_
  refine lv_iload_n hx hb dX4_sendNext_32 rfl (lv_at hl 2 rfl) ?_
  refine lv_i2l (v := 4) hx hb dX4_sendNext_33 (by decide) ?_
  refine lv_ldiv hx hb dX4_sendNext_34 (by decide) ?_
  refine lv_lstore_n (lv' := [(3, .long (((f1 3) * 3) / 4)), (2, .int 3), (0, .ref o), (1, .int 4)]) hx hb dX4_sendNext_35 rfl hl (by decide) rfl (fun ls hl => ?_)
  refine lv_aload_n hx hb dX4_sendNext_36 rfl (lv_at hl 2 rfl) ?_
  refine va_get (D := (dC, dI)) (ci := 4) (v := .ref o_met) (C := RX4) (T := TX4) (N := 3) hx hb hts hin4 hown hK hP 0 rfl rfl 0 (by decide) (hts (.fieldLink RX4 9 "PathProber$Odds" "met" "[J") (List.mem_of_getElem? (i := 1) (by decide +kernel))) (fun _ h9 => h9) rfl dX4_sendNext_37 ?_
  refine lv_iload_n hx hb dX4_sendNext_40 rfl (lv_at hl 1 rfl) ?_
  refine lv_iconst (v := 1) hx hb dX4_sendNext_41 (by decide) ?_
  refine lv_iadd hx hb dX4_sendNext_42 ?_
  refine lv_topi (fun z5 e6 => ?_)
  obtain rfl : z5 = (4 : Int32) := e6.trans (by decide)
  refine lv_dup2_11 hx hb dX4_sendNext_43 rfl rfl ?_
  refine va_lald hx hb hK hP 1 2 rfl rfl (vp_in_nI (n := 4) (by decide) (by decide)) dX4_sendNext_44 ?_
  refine lv_topl (fun z7 e8 => ?_)
  obtain rfl : z7 = (f1 4 : Int64) := e8
  refine lv_aload_n hx hb dX4_sendNext_45 rfl (lv_at hl 2 rfl) ?_
  refine va_get (D := (dC, dI)) (ci := 4) (v := .ref o_met) (C := RX4) (T := TX4) (N := 3) hx hb hts hin4 hown hK hP 0 rfl rfl 0 (by decide) (hts (.fieldLink RX4 9 "PathProber$Odds" "met" "[J") (List.mem_of_getElem? (i := 1) (by decide +kernel))) (fun _ h9 => h9) rfl dX4_sendNext_46 ?_
  refine lv_iload_n hx hb dX4_sendNext_49 rfl (lv_at hl 1 rfl) ?_
  refine va_lald hx hb hK hP 1 2 rfl rfl (vp_in_nI (n := 3) (by decide) (by decide)) dX4_sendNext_50 ?_
  refine lv_topl (fun z9 e10 => ?_)
  obtain rfl : z9 = (f1 3 : Int64) := e10
  refine lv_lload_n hx hb dX4_sendNext_51 rfl (lv_at hl 0 rfl) ?_
  refine lv_lsub hx hb dX4_sendNext_52 ?_
  refine lv_ladd hx hb dX4_sendNext_53 ?_
  refine va_last hx hb hK hP hD hS 1 2 rfl rfl (vp_in_nI (n := 4) (by decide) (by decide)) dX4_sendNext_54 (fun H locs hP hD hS => ?_)
  have hP : va_P (dC, dI) vwCl [(o, .inr (4, oX4 o_met o_enough x_o)), (o_met, .inl (kJ, 23, .inr (.inl (vp_updL f1 4 ((f1 4) + ((f1 3) - (((f1 3) * 3) / 4)))))))] H := hP
  have hD : va_D A [(o, .inr (4, oX4 o_met o_enough x_o)), (o_met, .inl (kJ, 23, .inr (.inl (vp_updL f1 4 ((f1 4) + ((f1 3) - (((f1 3) * 3) / 4)))))))] := hD
  refine lv_aload_n hx hb dX4_sendNext_55 rfl (lv_at hl 2 rfl) ?_
  refine va_get (D := (dC, dI)) (ci := 4) (v := .ref o_met) (C := RX4) (T := TX4) (N := 3) hx hb hts hin4 hown hK hP 0 rfl rfl 0 (by decide) (hts (.fieldLink RX4 9 "PathProber$Odds" "met" "[J") (List.mem_of_getElem? (i := 1) (by decide +kernel))) (fun _ h9 => h9) rfl dX4_sendNext_56 ?_
  refine lv_iload_n hx hb dX4_sendNext_59 rfl (lv_at hl 1 rfl) ?_
  refine lv_lload_n hx hb dX4_sendNext_60 rfl (lv_at hl 0 rfl) ?_
  refine va_last hx hb hK hP hD hS 1 2 rfl rfl (vp_in_nI (n := 3) (by decide) (by decide)) dX4_sendNext_61 (fun H locs hP hD hS => ?_)
  have hP : va_P (dC, dI) vwCl [(o, .inr (4, oX4 o_met o_enough x_o)), (o_met, .inl (kJ, 23, .inr (.inl (vp_updL (vp_updL f1 4 ((f1 4) + ((f1 3) - (((f1 3) * 3) / 4)))) 3 (((f1 3) * 3) / 4)))))] H := hP
  have hD : va_D A [(o, .inr (4, oX4 o_met o_enough x_o)), (o_met, .inl (kJ, 23, .inr (.inl (vp_updL (vp_updL f1 4 ((f1 4) + ((f1 3) - (((f1 3) * 3) / 4)))) 3 (((f1 3) * 3) / 4)))))] := hD
  refine lv_iinc (v := 2) (lv' := [(2, .int 2), (3, .long (((f1 3) * 3) / 4)), (0, .ref o), (1, .int 4)]) hx hb dX4_sendNext_62 hl (k := 1) rfl (by decide) (by decide) rfl (fun ls hl => ?_)
  refine lv_goto (tgt := 19) hx hb dX4_sendNext_65 (by decide) ?_
  refine lv_iload_n hx hb dX4_sendNext_19 rfl (lv_at hl 0 rfl) ?_
  refine lv_if_lt (tgt := 68) hx hb dX4_sendNext_20 (by decide) (fun c9 => absurd c9 (by decide)) (fun _ => ?_)
  refine lv_aload_n hx hb dX4_sendNext_23 rfl (lv_at hl 2 rfl) ?_
  refine va_get (D := (dC, dI)) (ci := 4) (v := .ref o_met) (C := RX4) (T := TX4) (N := 3) hx hb hts hin4 hown hK hP 0 rfl rfl 0 (by decide) (hts (.fieldLink RX4 9 "PathProber$Odds" "met" "[J") (List.mem_of_getElem? (i := 1) (by decide +kernel))) (fun _ h9 => h9) rfl dX4_sendNext_24 ?_
  refine lv_iload_n hx hb dX4_sendNext_27 rfl (lv_at hl 0 rfl) ?_
  refine va_lald hx hb hK hP 1 2 rfl rfl (vp_in_nI (n := 2) (by decide) (by decide)) dX4_sendNext_28 ?_
  refine lv_topl (fun z11 e12 => ?_)
  obtain rfl : z11 = (f1 2 : Int64) := e12
  refine lv_iload_n hx hb dX4_sendNext_29 rfl (lv_at hl 0 rfl) ?_
  refine lv_i2l (v := 2) hx hb dX4_sendNext_30 (by decide) ?_
  refine lv_lmul hx hb dX4_sendNext_31 ?_
  refine lv_iload_n hx hb dX4_sendNext_32 rfl (lv_at hl 3 rfl) ?_
  refine lv_i2l (v := 4) hx hb dX4_sendNext_33 (by decide) ?_
  refine lv_ldiv hx hb dX4_sendNext_34 (by decide) ?_
  refine lv_lstore_n (lv' := [(3, .long (((f1 2) * 2) / 4)), (2, .int 2), (0, .ref o), (1, .int 4)]) hx hb dX4_sendNext_35 rfl hl (by decide) rfl (fun ls hl => ?_)
  refine lv_aload_n hx hb dX4_sendNext_36 rfl (lv_at hl 2 rfl) ?_
  refine va_get (D := (dC, dI)) (ci := 4) (v := .ref o_met) (C := RX4) (T := TX4) (N := 3) hx hb hts hin4 hown hK hP 0 rfl rfl 0 (by decide) (hts (.fieldLink RX4 9 "PathProber$Odds" "met" "[J") (List.mem_of_getElem? (i := 1) (by decide +kernel))) (fun _ h9 => h9) rfl dX4_sendNext_37 ?_
  refine lv_iload_n hx hb dX4_sendNext_40 rfl (lv_at hl 1 rfl) ?_
  refine lv_iconst (v := 1) hx hb dX4_sendNext_41 (by decide) ?_
  refine lv_iadd hx hb dX4_sendNext_42 ?_
  refine lv_topi (fun z13 e14 => ?_)
  obtain rfl : z13 = (3 : Int32) := e14.trans (by decide)
  refine lv_dup2_11 hx hb dX4_sendNext_43 rfl rfl ?_
  refine va_lald hx hb hK hP 1 2 rfl rfl (vp_in_nI (n := 3) (by decide) (by decide)) dX4_sendNext_44 ?_
  refine lv_topl (fun z15 e16 => ?_)
  obtain rfl : z15 = (((f1 3) * 3) / 4 : Int64) := e16
  refine lv_aload_n hx hb dX4_sendNext_45 rfl (lv_at hl 2 rfl) ?_
  refine va_get (D := (dC, dI)) (ci := 4) (v := .ref o_met) (C := RX4) (T := TX4) (N := 3) hx hb hts hin4 hown hK hP 0 rfl rfl 0 (by decide) (hts (.fieldLink RX4 9 "PathProber$Odds" "met" "[J") (List.mem_of_getElem? (i := 1) (by decide +kernel))) (fun _ h9 => h9) rfl dX4_sendNext_46 ?_
  refine lv_iload_n hx hb dX4_sendNext_49 rfl (lv_at hl 1 rfl) ?_
  refine va_lald hx hb hK hP 1 2 rfl rfl (vp_in_nI (n := 2) (by decide) (by decide)) dX4_sendNext_50 ?_
  refine lv_topl (fun z17 e18 => ?_)
  obtain rfl : z17 = (f1 2 : Int64) := e18
  refine lv_lload_n hx hb dX4_sendNext_51 rfl (lv_at hl 0 rfl) ?_
  refine lv_lsub hx hb dX4_sendNext_52 ?_
  refine lv_ladd hx hb dX4_sendNext_53 ?_
  refine va_last hx hb hK hP hD hS 1 2 rfl rfl (vp_in_nI (n := 3) (by decide) (by decide)) dX4_sendNext_54 (fun H locs hP hD hS => ?_)
  have hP : va_P (dC, dI) vwCl [(o, .inr (4, oX4 o_met o_enough x_o)), (o_met, .inl (kJ, 23, .inr (.inl (vp_updL (vp_updL (vp_updL f1 4 ((f1 4) + ((f1 3) - (((f1 3) * 3) / 4)))) 3 (((f1 3) * 3) / 4)) 3 ((((f1 3) * 3) / 4) + ((f1 2) - (((f1 2) * 2) / 4)))))))] H := hP
  have hD : va_D A [(o, .inr (4, oX4 o_met o_enough x_o)), (o_met, .inl (kJ, 23, .inr (.inl (vp_updL (vp_updL (vp_updL f1 4 ((f1 4) + ((f1 3) - (((f1 3) * 3) / 4)))) 3 (((f1 3) * 3) / 4)) 3 ((((f1 3) * 3) / 4) + ((f1 2) - (((f1 2) * 2) / 4)))))))] := hD
  refine lv_aload_n hx hb dX4_sendNext_55 rfl (lv_at hl 2 rfl) ?_
  refine va_get (D := (dC, dI)) (ci := 4) (v := .ref o_met) (C := RX4) (T := TX4) (N := 3) hx hb hts hin4 hown hK hP 0 rfl rfl 0 (by decide) (hts (.fieldLink RX4 9 "PathProber$Odds" "met" "[J") (List.mem_of_getElem? (i := 1) (by decide +kernel))) (fun _ h9 => h9) rfl dX4_sendNext_56 ?_
  refine lv_iload_n hx hb dX4_sendNext_59 rfl (lv_at hl 1 rfl) ?_
  refine lv_lload_n hx hb dX4_sendNext_60 rfl (lv_at hl 0 rfl) ?_
  refine va_last hx hb hK hP hD hS 1 2 rfl rfl (vp_in_nI (n := 2) (by decide) (by decide)) dX4_sendNext_61 (fun H locs hP hD hS => ?_)
  have hP : va_P (dC, dI) vwCl [(o, .inr (4, oX4 o_met o_enough x_o)), (o_met, .inl (kJ, 23, .inr (.inl (vp_updL (vp_updL (vp_updL (vp_updL f1 4 ((f1 4) + ((f1 3) - (((f1 3) * 3) / 4)))) 3 (((f1 3) * 3) / 4)) 3 ((((f1 3) * 3) / 4) + ((f1 2) - (((f1 2) * 2) / 4)))) 2 (((f1 2) * 2) / 4)))))] H := hP
  have hD : va_D A [(o, .inr (4, oX4 o_met o_enough x_o)), (o_met, .inl (kJ, 23, .inr (.inl (vp_updL (vp_updL (vp_updL (vp_updL f1 4 ((f1 4) + ((f1 3) - (((f1 3) * 3) / 4)))) 3 (((f1 3) * 3) / 4)) 3 ((((f1 3) * 3) / 4) + ((f1 2) - (((f1 2) * 2) / 4)))) 2 (((f1 2) * 2) / 4)))))] := hD
  refine lv_iinc (v := 1) (lv' := [(2, .int 1), (3, .long (((f1 2) * 2) / 4)), (0, .ref o), (1, .int 4)]) hx hb dX4_sendNext_62 hl (k := 1) rfl (by decide) (by decide) rfl (fun ls hl => ?_)
  refine lv_goto (tgt := 19) hx hb dX4_sendNext_65 (by decide) ?_
  refine lv_iload_n hx hb dX4_sendNext_19 rfl (lv_at hl 0 rfl) ?_
  refine lv_if_lt (tgt := 68) hx hb dX4_sendNext_20 (by decide) (fun c9 => absurd c9 (by decide)) (fun _ => ?_)
  refine lv_aload_n hx hb dX4_sendNext_23 rfl (lv_at hl 2 rfl) ?_
  refine va_get (D := (dC, dI)) (ci := 4) (v := .ref o_met) (C := RX4) (T := TX4) (N := 3) hx hb hts hin4 hown hK hP 0 rfl rfl 0 (by decide) (hts (.fieldLink RX4 9 "PathProber$Odds" "met" "[J") (List.mem_of_getElem? (i := 1) (by decide +kernel))) (fun _ h9 => h9) rfl dX4_sendNext_24 ?_
  refine lv_iload_n hx hb dX4_sendNext_27 rfl (lv_at hl 0 rfl) ?_
  refine va_lald hx hb hK hP 1 2 rfl rfl (vp_in_nI (n := 1) (by decide) (by decide)) dX4_sendNext_28 ?_
  refine lv_topl (fun z19 e20 => ?_)
  obtain rfl : z19 = (f1 1 : Int64) := e20
  refine lv_iload_n hx hb dX4_sendNext_29 rfl (lv_at hl 0 rfl) ?_
  refine lv_i2l (v := 1) hx hb dX4_sendNext_30 (by decide) ?_
  refine lv_lmul hx hb dX4_sendNext_31 ?_
  refine lv_iload_n hx hb dX4_sendNext_32 rfl (lv_at hl 3 rfl) ?_
  refine lv_i2l (v := 4) hx hb dX4_sendNext_33 (by decide) ?_
  refine lv_ldiv hx hb dX4_sendNext_34 (by decide) ?_
  refine lv_lstore_n (lv' := [(3, .long (((f1 1) * 1) / 4)), (2, .int 1), (0, .ref o), (1, .int 4)]) hx hb dX4_sendNext_35 rfl hl (by decide) rfl (fun ls hl => ?_)
  refine lv_aload_n hx hb dX4_sendNext_36 rfl (lv_at hl 2 rfl) ?_
  refine va_get (D := (dC, dI)) (ci := 4) (v := .ref o_met) (C := RX4) (T := TX4) (N := 3) hx hb hts hin4 hown hK hP 0 rfl rfl 0 (by decide) (hts (.fieldLink RX4 9 "PathProber$Odds" "met" "[J") (List.mem_of_getElem? (i := 1) (by decide +kernel))) (fun _ h9 => h9) rfl dX4_sendNext_37 ?_
  refine lv_iload_n hx hb dX4_sendNext_40 rfl (lv_at hl 1 rfl) ?_
  refine lv_iconst (v := 1) hx hb dX4_sendNext_41 (by decide) ?_
  refine lv_iadd hx hb dX4_sendNext_42 ?_
  refine lv_topi (fun z21 e22 => ?_)
  obtain rfl : z21 = (2 : Int32) := e22.trans (by decide)
  refine lv_dup2_11 hx hb dX4_sendNext_43 rfl rfl ?_
  refine va_lald hx hb hK hP 1 2 rfl rfl (vp_in_nI (n := 2) (by decide) (by decide)) dX4_sendNext_44 ?_
  refine lv_topl (fun z23 e24 => ?_)
  obtain rfl : z23 = (((f1 2) * 2) / 4 : Int64) := e24
  refine lv_aload_n hx hb dX4_sendNext_45 rfl (lv_at hl 2 rfl) ?_
  refine va_get (D := (dC, dI)) (ci := 4) (v := .ref o_met) (C := RX4) (T := TX4) (N := 3) hx hb hts hin4 hown hK hP 0 rfl rfl 0 (by decide) (hts (.fieldLink RX4 9 "PathProber$Odds" "met" "[J") (List.mem_of_getElem? (i := 1) (by decide +kernel))) (fun _ h9 => h9) rfl dX4_sendNext_46 ?_
  refine lv_iload_n hx hb dX4_sendNext_49 rfl (lv_at hl 1 rfl) ?_
  refine va_lald hx hb hK hP 1 2 rfl rfl (vp_in_nI (n := 1) (by decide) (by decide)) dX4_sendNext_50 ?_
  refine lv_topl (fun z25 e26 => ?_)
  obtain rfl : z25 = (f1 1 : Int64) := e26
  refine lv_lload_n hx hb dX4_sendNext_51 rfl (lv_at hl 0 rfl) ?_
  refine lv_lsub hx hb dX4_sendNext_52 ?_
  refine lv_ladd hx hb dX4_sendNext_53 ?_
  refine va_last hx hb hK hP hD hS 1 2 rfl rfl (vp_in_nI (n := 2) (by decide) (by decide)) dX4_sendNext_54 (fun H locs hP hD hS => ?_)
  have hP : va_P (dC, dI) vwCl [(o, .inr (4, oX4 o_met o_enough x_o)), (o_met, .inl (kJ, 23, .inr (.inl (vp_updL (vp_updL (vp_updL (vp_updL (vp_updL f1 4 ((f1 4) + ((f1 3) - (((f1 3) * 3) / 4)))) 3 (((f1 3) * 3) / 4)) 3 ((((f1 3) * 3) / 4) + ((f1 2) - (((f1 2) * 2) / 4)))) 2 (((f1 2) * 2) / 4)) 2 ((((f1 2) * 2) / 4) + ((f1 1) - (((f1 1) * 1) / 4)))))))] H := hP
  have hD : va_D A [(o, .inr (4, oX4 o_met o_enough x_o)), (o_met, .inl (kJ, 23, .inr (.inl (vp_updL (vp_updL (vp_updL (vp_updL (vp_updL f1 4 ((f1 4) + ((f1 3) - (((f1 3) * 3) / 4)))) 3 (((f1 3) * 3) / 4)) 3 ((((f1 3) * 3) / 4) + ((f1 2) - (((f1 2) * 2) / 4)))) 2 (((f1 2) * 2) / 4)) 2 ((((f1 2) * 2) / 4) + ((f1 1) - (((f1 1) * 1) / 4)))))))] := hD
  refine lv_aload_n hx hb dX4_sendNext_55 rfl (lv_at hl 2 rfl) ?_
  refine va_get (D := (dC, dI)) (ci := 4) (v := .ref o_met) (C := RX4) (T := TX4) (N := 3) hx hb hts hin4 hown hK hP 0 rfl rfl 0 (by decide) (hts (.fieldLink RX4 9 "PathProber$Odds" "met" "[J") (List.mem_of_getElem? (i := 1) (by decide +kernel))) (fun _ h9 => h9) rfl dX4_sendNext_56 ?_
  refine lv_iload_n hx hb dX4_sendNext_59 rfl (lv_at hl 1 rfl) ?_
  refine lv_lload_n hx hb dX4_sendNext_60 rfl (lv_at hl 0 rfl) ?_
  refine va_last hx hb hK hP hD hS 1 2 rfl rfl (vp_in_nI (n := 1) (by decide) (by decide)) dX4_sendNext_61 (fun H locs hP hD hS => ?_)
  have hP : va_P (dC, dI) vwCl [(o, .inr (4, oX4 o_met o_enough x_o)), (o_met, .inl (kJ, 23, .inr (.inl (vp_updL (vp_updL (vp_updL (vp_updL (vp_updL (vp_updL f1 4 ((f1 4) + ((f1 3) - (((f1 3) * 3) / 4)))) 3 (((f1 3) * 3) / 4)) 3 ((((f1 3) * 3) / 4) + ((f1 2) - (((f1 2) * 2) / 4)))) 2 (((f1 2) * 2) / 4)) 2 ((((f1 2) * 2) / 4) + ((f1 1) - (((f1 1) * 1) / 4)))) 1 (((f1 1) * 1) / 4)))))] H := hP
  have hD : va_D A [(o, .inr (4, oX4 o_met o_enough x_o)), (o_met, .inl (kJ, 23, .inr (.inl (vp_updL (vp_updL (vp_updL (vp_updL (vp_updL (vp_updL f1 4 ((f1 4) + ((f1 3) - (((f1 3) * 3) / 4)))) 3 (((f1 3) * 3) / 4)) 3 ((((f1 3) * 3) / 4) + ((f1 2) - (((f1 2) * 2) / 4)))) 2 (((f1 2) * 2) / 4)) 2 ((((f1 2) * 2) / 4) + ((f1 1) - (((f1 1) * 1) / 4)))) 1 (((f1 1) * 1) / 4)))))] := hD
  refine lv_iinc (v := 0) (lv' := [(2, .int 0), (3, .long (((f1 1) * 1) / 4)), (0, .ref o), (1, .int 4)]) hx hb dX4_sendNext_62 hl (k := 1) rfl (by decide) (by decide) rfl (fun ls hl => ?_)
  refine lv_goto (tgt := 19) hx hb dX4_sendNext_65 (by decide) ?_
  refine lv_iload_n hx hb dX4_sendNext_19 rfl (lv_at hl 0 rfl) ?_
  refine lv_if_lt (tgt := 68) hx hb dX4_sendNext_20 (by decide) (fun c9 => absurd c9 (by decide)) (fun _ => ?_)
  refine lv_aload_n hx hb dX4_sendNext_23 rfl (lv_at hl 2 rfl) ?_
  refine va_get (D := (dC, dI)) (ci := 4) (v := .ref o_met) (C := RX4) (T := TX4) (N := 3) hx hb hts hin4 hown hK hP 0 rfl rfl 0 (by decide) (hts (.fieldLink RX4 9 "PathProber$Odds" "met" "[J") (List.mem_of_getElem? (i := 1) (by decide +kernel))) (fun _ h9 => h9) rfl dX4_sendNext_24 ?_
  refine lv_iload_n hx hb dX4_sendNext_27 rfl (lv_at hl 0 rfl) ?_
  refine va_lald hx hb hK hP 1 2 rfl rfl (vp_in_nI (n := 0) (by decide) (by decide)) dX4_sendNext_28 ?_
  refine lv_topl (fun z27 e28 => ?_)
  obtain rfl : z27 = (f1 0 : Int64) := e28
  refine lv_iload_n hx hb dX4_sendNext_29 rfl (lv_at hl 0 rfl) ?_
  refine lv_i2l (v := 0) hx hb dX4_sendNext_30 (by decide) ?_
  refine lv_lmul hx hb dX4_sendNext_31 ?_
  refine lv_iload_n hx hb dX4_sendNext_32 rfl (lv_at hl 3 rfl) ?_
  refine lv_i2l (v := 4) hx hb dX4_sendNext_33 (by decide) ?_
  refine lv_ldiv hx hb dX4_sendNext_34 (by decide) ?_
  refine lv_lstore_n (lv' := [(3, .long (((f1 0) * 0) / 4)), (2, .int 0), (0, .ref o), (1, .int 4)]) hx hb dX4_sendNext_35 rfl hl (by decide) rfl (fun ls hl => ?_)
  refine lv_aload_n hx hb dX4_sendNext_36 rfl (lv_at hl 2 rfl) ?_
  refine va_get (D := (dC, dI)) (ci := 4) (v := .ref o_met) (C := RX4) (T := TX4) (N := 3) hx hb hts hin4 hown hK hP 0 rfl rfl 0 (by decide) (hts (.fieldLink RX4 9 "PathProber$Odds" "met" "[J") (List.mem_of_getElem? (i := 1) (by decide +kernel))) (fun _ h9 => h9) rfl dX4_sendNext_37 ?_
  refine lv_iload_n hx hb dX4_sendNext_40 rfl (lv_at hl 1 rfl) ?_
  refine lv_iconst (v := 1) hx hb dX4_sendNext_41 (by decide) ?_
  refine lv_iadd hx hb dX4_sendNext_42 ?_
  refine lv_topi (fun z29 e30 => ?_)
  obtain rfl : z29 = (1 : Int32) := e30.trans (by decide)
  refine lv_dup2_11 hx hb dX4_sendNext_43 rfl rfl ?_
  refine va_lald hx hb hK hP 1 2 rfl rfl (vp_in_nI (n := 1) (by decide) (by decide)) dX4_sendNext_44 ?_
  refine lv_topl (fun z31 e32 => ?_)
  obtain rfl : z31 = (((f1 1) * 1) / 4 : Int64) := e32
  refine lv_aload_n hx hb dX4_sendNext_45 rfl (lv_at hl 2 rfl) ?_
  refine va_get (D := (dC, dI)) (ci := 4) (v := .ref o_met) (C := RX4) (T := TX4) (N := 3) hx hb hts hin4 hown hK hP 0 rfl rfl 0 (by decide) (hts (.fieldLink RX4 9 "PathProber$Odds" "met" "[J") (List.mem_of_getElem? (i := 1) (by decide +kernel))) (fun _ h9 => h9) rfl dX4_sendNext_46 ?_
  refine lv_iload_n hx hb dX4_sendNext_49 rfl (lv_at hl 1 rfl) ?_
  refine va_lald hx hb hK hP 1 2 rfl rfl (vp_in_nI (n := 0) (by decide) (by decide)) dX4_sendNext_50 ?_
  refine lv_topl (fun z33 e34 => ?_)
  obtain rfl : z33 = (f1 0 : Int64) := e34
  refine lv_lload_n hx hb dX4_sendNext_51 rfl (lv_at hl 0 rfl) ?_
  refine lv_lsub hx hb dX4_sendNext_52 ?_
  refine lv_ladd hx hb dX4_sendNext_53 ?_
  refine va_last hx hb hK hP hD hS 1 2 rfl rfl (vp_in_nI (n := 1) (by decide) (by decide)) dX4_sendNext_54 (fun H locs hP hD hS => ?_)
  have hP : va_P (dC, dI) vwCl [(o, .inr (4, oX4 o_met o_enough x_o)), (o_met, .inl (kJ, 23, .inr (.inl (vp_updL (vp_updL (vp_updL (vp_updL (vp_updL (vp_updL (vp_updL f1 4 ((f1 4) + ((f1 3) - (((f1 3) * 3) / 4)))) 3 (((f1 3) * 3) / 4)) 3 ((((f1 3) * 3) / 4) + ((f1 2) - (((f1 2) * 2) / 4)))) 2 (((f1 2) * 2) / 4)) 2 ((((f1 2) * 2) / 4) + ((f1 1) - (((f1 1) * 1) / 4)))) 1 (((f1 1) * 1) / 4)) 1 ((((f1 1) * 1) / 4) + ((f1 0) - (((f1 0) * 0) / 4)))))))] H := hP
  have hD : va_D A [(o, .inr (4, oX4 o_met o_enough x_o)), (o_met, .inl (kJ, 23, .inr (.inl (vp_updL (vp_updL (vp_updL (vp_updL (vp_updL (vp_updL (vp_updL f1 4 ((f1 4) + ((f1 3) - (((f1 3) * 3) / 4)))) 3 (((f1 3) * 3) / 4)) 3 ((((f1 3) * 3) / 4) + ((f1 2) - (((f1 2) * 2) / 4)))) 2 (((f1 2) * 2) / 4)) 2 ((((f1 2) * 2) / 4) + ((f1 1) - (((f1 1) * 1) / 4)))) 1 (((f1 1) * 1) / 4)) 1 ((((f1 1) * 1) / 4) + ((f1 0) - (((f1 0) * 0) / 4)))))))] := hD
  refine lv_aload_n hx hb dX4_sendNext_55 rfl (lv_at hl 2 rfl) ?_
  refine va_get (D := (dC, dI)) (ci := 4) (v := .ref o_met) (C := RX4) (T := TX4) (N := 3) hx hb hts hin4 hown hK hP 0 rfl rfl 0 (by decide) (hts (.fieldLink RX4 9 "PathProber$Odds" "met" "[J") (List.mem_of_getElem? (i := 1) (by decide +kernel))) (fun _ h9 => h9) rfl dX4_sendNext_56 ?_
  refine lv_iload_n hx hb dX4_sendNext_59 rfl (lv_at hl 1 rfl) ?_
  refine lv_lload_n hx hb dX4_sendNext_60 rfl (lv_at hl 0 rfl) ?_
  refine va_last hx hb hK hP hD hS 1 2 rfl rfl (vp_in_nI (n := 0) (by decide) (by decide)) dX4_sendNext_61 (fun H locs hP hD hS => ?_)
  have hP : va_P (dC, dI) vwCl [(o, .inr (4, oX4 o_met o_enough x_o)), (o_met, .inl (kJ, 23, .inr (.inl (vp_updL (vp_updL (vp_updL (vp_updL (vp_updL (vp_updL (vp_updL (vp_updL f1 4 ((f1 4) + ((f1 3) - (((f1 3) * 3) / 4)))) 3 (((f1 3) * 3) / 4)) 3 ((((f1 3) * 3) / 4) + ((f1 2) - (((f1 2) * 2) / 4)))) 2 (((f1 2) * 2) / 4)) 2 ((((f1 2) * 2) / 4) + ((f1 1) - (((f1 1) * 1) / 4)))) 1 (((f1 1) * 1) / 4)) 1 ((((f1 1) * 1) / 4) + ((f1 0) - (((f1 0) * 0) / 4)))) 0 (((f1 0) * 0) / 4)))))] H := hP
  have hD : va_D A [(o, .inr (4, oX4 o_met o_enough x_o)), (o_met, .inl (kJ, 23, .inr (.inl (vp_updL (vp_updL (vp_updL (vp_updL (vp_updL (vp_updL (vp_updL (vp_updL f1 4 ((f1 4) + ((f1 3) - (((f1 3) * 3) / 4)))) 3 (((f1 3) * 3) / 4)) 3 ((((f1 3) * 3) / 4) + ((f1 2) - (((f1 2) * 2) / 4)))) 2 (((f1 2) * 2) / 4)) 2 ((((f1 2) * 2) / 4) + ((f1 1) - (((f1 1) * 1) / 4)))) 1 (((f1 1) * 1) / 4)) 1 ((((f1 1) * 1) / 4) + ((f1 0) - (((f1 0) * 0) / 4)))) 0 (((f1 0) * 0) / 4)))))] := hD
  refine lv_iinc (v := (-1)) (lv' := [(2, .int (-1)), (3, .long (((f1 0) * 0) / 4)), (0, .ref o), (1, .int 4)]) hx hb dX4_sendNext_62 hl (k := 1) rfl (by decide) (by decide) rfl (fun ls hl => ?_)
  refine lv_goto (tgt := 19) hx hb dX4_sendNext_65 (by decide) ?_
  refine lv_iload_n hx hb dX4_sendNext_19 rfl (lv_at hl 0 rfl) ?_
  refine lv_if_lt (tgt := 68) hx hb dX4_sendNext_20 (by decide) (fun _ => ?_) (fun c9 => absurd (by decide) c9)
  have hP9 := hP.sub (ws' := [(o, .inr (4, oX4 o_met o_enough x_o)), (o_met, .inl (kJ, 23, .inr (.inl (vp_updL (vp_updL (vp_updL (vp_updL (vp_updL (vp_updL (vp_updL (vp_updL f1 4 ((f1 4) + ((f1 3) - (((f1 3) * 3) / 4)))) 3 (((f1 3) * 3) / 4)) 3 ((((f1 3) * 3) / 4) + ((f1 2) - (((f1 2) * 2) / 4)))) 2 (((f1 2) * 2) / 4)) 2 ((((f1 2) * 2) / 4) + ((f1 1) - (((f1 1) * 1) / 4)))) 1 (((f1 1) * 1) / 4)) 1 ((((f1 1) * 1) / 4) + ((f1 0) - (((f1 0) * 0) / 4)))) 0 (((f1 0) * 0) / 4)))))]) [0, 1] rfl
  have hD9 := hD.sub (ws' := [(o, .inr (4, oX4 o_met o_enough x_o)), (o_met, .inl (kJ, 23, .inr (.inl (vp_updL (vp_updL (vp_updL (vp_updL (vp_updL (vp_updL (vp_updL (vp_updL f1 4 ((f1 4) + ((f1 3) - (((f1 3) * 3) / 4)))) 3 (((f1 3) * 3) / 4)) 3 ((((f1 3) * 3) / 4) + ((f1 2) - (((f1 2) * 2) / 4)))) 2 (((f1 2) * 2) / 4)) 2 ((((f1 2) * 2) / 4) + ((f1 1) - (((f1 1) * 1) / 4)))) 1 (((f1 1) * 1) / 4)) 1 ((((f1 1) * 1) / 4) + ((f1 0) - (((f1 0) * 0) / 4)))) 0 (((f1 0) * 0) / 4)))))]) [0, 1] (by decide) rfl
  exact W.vret hx hb hr (fun t ht hW => ⟨⟨(), rfl, trivial, vp_updL (vp_updL (vp_updL (vp_updL (vp_updL (vp_updL (vp_updL (vp_updL f1 4 ((f1 4) + ((f1 3) - (((f1 3) * 3) / 4)))) 3 (((f1 3) * 3) / 4)) 3 ((((f1 3) * 3) / 4) + ((f1 2) - (((f1 2) * 2) / 4)))) 2 (((f1 2) * 2) / 4)) 2 ((((f1 2) * 2) / 4) + ((f1 1) - (((f1 1) * 1) / 4)))) 1 (((f1 1) * 1) / 4)) 1 ((((f1 1) * 1) / 4) + ((f1 0) - (((f1 0) * 0) / 4)))) 0 (((f1 0) * 0) / 4), rfl, rfl, rfl, rfl, rfl, by rw [ht]; exact hP9, hD9⟩, hS.F ht⟩) hS.2.2 dX4_sendNext_68
def rm_e4_begin_5 : Room := { frames := 0, cells := 0, slots := 0, locals := 0 }
set_option maxHeartbeats 4000000 in
set_option maxRecDepth 100000 in
theorem e4_begin_5 (l : Launch) (dC : Nat → ClassId) (dI : Nat → Nat → Nat) (kB kI kJ kZ kC kS : ClassId) (sz : Nat) (o : Nat) (o_met : Nat) (o_enough : Nat) (x_o : Nat → Int32) (f1 : Nat → Int64) : Met l yX4_begin wsX4_begin rm_e4_begin_5 (va_Pc [.ref o, .int 5] (fun U => U.heap.size = sz ∧ va_P (dC, dI) vwCl [(o, .inr (4, oX4 o_met o_enough x_o)), (o_met, .inl (kJ, 23, .inr (.inl f1)))] U.heap ∧ kE dC dI kB kI kJ kZ kC kS U ∧ va_D (fun _ => True) [(o, .inr (4, oX4 o_met o_enough x_o)), (o_met, .inl (kJ, 23, .inr (.inl f1)))])) (va_Qv (fun (_ : Unit) => True) (fun _ t => ∃ (g1 : Nat → Int64), g1 0 = kv5 0 0 ∧ g1 1 = kv5 0 1 ∧ g1 2 = kv5 0 2 ∧ g1 3 = kv5 0 3 ∧ g1 4 = kv5 0 4 ∧ g1 5 = kv5 0 5 ∧ va_P (dC, dI) vwCl [(o, .inr (4, oX4 o_met o_enough x_o)), (o_met, .inl (kJ, 23, .inr (.inl g1)))] t.heap ∧ va_D (va_A [(o, .inr (4, oX4 o_met o_enough x_o)), (o_met, .inl (kJ, 23, .inr (.inl f1)))] sz) [(o, .inr (4, oX4 o_met o_enough x_o)), (o_met, .inl (kJ, 23, .inr (.inl g1)))]) (va_A [(o, .inr (4, oX4 o_met o_enough x_o)), (o_met, .inl (kJ, 23, .inr (.inl f1)))] sz)) 0 0 (va_A [(o, .inr (4, oX4 o_met o_enough x_o)), (o_met, .inl (kJ, 23, .inr (.inl f1)))] sz) := by
  refine Met.ofW (cc := cX4_begin) (maxL := 3) (ret := none) (by decide) rfl ?_
  intro p e s m args0 below meth c s₁ B hml hv
  obtain ⟨hargs, hsz, hP, hE, hD0⟩ := hv
  have hx := B.exec
  have hb := B.bytes
  have hr := B.returns
  have hts := atoms_spec (ws := wsX4_begin) B.pre
  have hown : s.vm.findClass RX4 = some m.cls := findClass_of_methodNamed B.named
  have hlocks := B.notSynchronized
  have hK := hE.1
  have hin4 : ∀ w ∈ wsX40, w ∈ wsX4_begin := fun _ h9 => List.mem_cons_of_mem _ (List.mem_append_right _ h9)
  subst hsz
  have hD := hD0.self (sz := s.heap.size)
  generalize hAe : va_A [(o, .inr (4, oX4 o_met o_enough x_o)), (o_met, .inl (kJ, 23, .inr (.inl f1)))] s.heap.size = A at hD ⊢
  have hA : ∀ q : Nat, s.heap.size ≤ q → A q := fun q h => by rw [← hAe]; exact Or.inr h
  have hS : va_S A s.heap s.heap [] := va_S.rf
  have hP : va_P (dC, dI) vwCl [(o, .inr (4, oX4 o_met o_enough x_o)), (o_met, .inl (kJ, 23, .inr (.inl f1)))] s.heap := hP
  have hl := lv_entry ([.ref o, .int 5]) (n := 3) (Nat.le_of_ble_eq_true rfl)
  have hla : entryFrame m args0 3 = entryFrame m ([.ref o, .int 5] : List Value).toArray 3 := by rw [hargs]
  rw [hla, lg_entry_eq]
  generalize (lg_sl ([.ref o, .int 5]) ++ List.replicate (3 - (lg_sl ([.ref o, .int 5])).length) Slot.unset).toArray = ls at hl ⊢
  have hl : lv_has ls 3 [(0, .ref o), (1, .int 5)] := hl
  refine lv_aload_n hx hb dX4_begin_0 rfl (lv_at hl 0 rfl) ?_
  refine va_get (D := (dC, dI)) (ci := 4) (v := .ref o_met) (C := RX4) (T := TX4) (N := 3) hx hb hts hin4 hown hK hP 0 rfl rfl 0 (by decide) (hts (.fieldLink RX4 9 "PathProber$Odds" "met" "[J") (List.mem_of_getElem? (i := 1) (by decide +kernel))) (fun _ h9 => h9) rfl dX4_begin_1 ?_
  refine lv_iconst (v := 0) hx hb dX4_begin_4 (by decide) ?_
  refine lv_ldc2 hx hb hown (hts (.constantLong RX4 23 (1000000000000)) (List.mem_of_getElem? (i := 2) (by decide +kernel))) dX4_begin_5 ?_
  refine va_last hx hb hK hP hD hS 1 2 rfl rfl (vp_in_nI (n := 0) (by decide) (by decide)) dX4_begin_8 (fun H locs hP hD hS => ?_)
  have hP : va_P (dC, dI) vwCl [(o, .inr (4, oX4 o_met o_enough x_o)), (o_met, .inl (kJ, 23, .inr (.inl (vp_updL f1 0 1000000000000))))] H := hP
  have hD : va_D A [(o, .inr (4, oX4 o_met o_enough x_o)), (o_met, .inl (kJ, 23, .inr (.inl (vp_updL f1 0 1000000000000))))] := hD
  refine lv_iconst (v := 1) hx hb dX4_begin_9 (by decide) ?_
  refine lv_istore_n (lv' := [(2, .int 1), (0, .ref o), (1, .int 5)]) hx hb dX4_begin_10 rfl hl (by decide) rfl (fun ls hl => ?_)
  refine lv_iload_n hx hb dX4_begin_11 rfl (lv_at hl 0 rfl) ?_
  refine lv_iload_n hx hb dX4_begin_12 rfl (lv_at hl 2 rfl) ?_
  refine lv_icmp_gt (tgt := 29) hx hb dX4_begin_13 (by decide) (fun c9 => absurd c9 (by decide)) (fun _ => ?_)
  refine lv_aload_n hx hb dX4_begin_16 rfl (lv_at hl 1 rfl) ?_
  refine va_get (D := (dC, dI)) (ci := 4) (v := .ref o_met) (C := RX4) (T := TX4) (N := 3) hx hb hts hin4 hown hK hP 0 rfl rfl 0 (by decide) (hts (.fieldLink RX4 9 "PathProber$Odds" "met" "[J") (List.mem_of_getElem? (i := 1) (by decide +kernel))) (fun _ h9 => h9) rfl dX4_begin_17 ?_
  refine lv_iload_n hx hb dX4_begin_20 rfl (lv_at hl 0 rfl) ?_
  refine lv_lconst (v := 0) hx hb dX4_begin_21 (by decide) ?_
  refine va_last hx hb hK hP hD hS 1 2 rfl rfl (vp_in_nI (n := 1) (by decide) (by decide)) dX4_begin_22 (fun H locs hP hD hS => ?_)
  have hP : va_P (dC, dI) vwCl [(o, .inr (4, oX4 o_met o_enough x_o)), (o_met, .inl (kJ, 23, .inr (.inl (vp_updL (vp_updL f1 0 1000000000000) 1 0))))] H := hP
  have hD : va_D A [(o, .inr (4, oX4 o_met o_enough x_o)), (o_met, .inl (kJ, 23, .inr (.inl (vp_updL (vp_updL f1 0 1000000000000) 1 0))))] := hD
  refine lv_iinc (v := 2) (lv' := [(2, .int 2), (0, .ref o), (1, .int 5)]) hx hb dX4_begin_23 hl (k := 0) rfl (by decide) (by decide) rfl (fun ls hl => ?_)
  refine lv_goto (tgt := 11) hx hb dX4_begin_26 (by decide) ?_
  refine lv_iload_n hx hb dX4_begin_11 rfl (lv_at hl 0 rfl) ?_
  refine lv_iload_n hx hb dX4_begin_12 rfl (lv_at hl 2 rfl) ?_
  refine lv_icmp_gt (tgt := 29) hx hb dX4_begin_13 (by decide) (fun c9 => absurd c9 (by decide)) (fun _ => ?_)
  refine lv_aload_n hx hb dX4_begin_16 rfl (lv_at hl 1 rfl) ?_
  refine va_get (D := (dC, dI)) (ci := 4) (v := .ref o_met) (C := RX4) (T := TX4) (N := 3) hx hb hts hin4 hown hK hP 0 rfl rfl 0 (by decide) (hts (.fieldLink RX4 9 "PathProber$Odds" "met" "[J") (List.mem_of_getElem? (i := 1) (by decide +kernel))) (fun _ h9 => h9) rfl dX4_begin_17 ?_
  refine lv_iload_n hx hb dX4_begin_20 rfl (lv_at hl 0 rfl) ?_
  refine lv_lconst (v := 0) hx hb dX4_begin_21 (by decide) ?_
  refine va_last hx hb hK hP hD hS 1 2 rfl rfl (vp_in_nI (n := 2) (by decide) (by decide)) dX4_begin_22 (fun H locs hP hD hS => ?_)
  have hP : va_P (dC, dI) vwCl [(o, .inr (4, oX4 o_met o_enough x_o)), (o_met, .inl (kJ, 23, .inr (.inl (vp_updL (vp_updL (vp_updL f1 0 1000000000000) 1 0) 2 0))))] H := hP
  have hD : va_D A [(o, .inr (4, oX4 o_met o_enough x_o)), (o_met, .inl (kJ, 23, .inr (.inl (vp_updL (vp_updL (vp_updL f1 0 1000000000000) 1 0) 2 0))))] := hD
  refine lv_iinc (v := 3) (lv' := [(2, .int 3), (0, .ref o), (1, .int 5)]) hx hb dX4_begin_23 hl (k := 0) rfl (by decide) (by decide) rfl (fun ls hl => ?_)
  refine lv_goto (tgt := 11) hx hb dX4_begin_26 (by decide) ?_
  refine lv_iload_n hx hb dX4_begin_11 rfl (lv_at hl 0 rfl) ?_
  refine lv_iload_n hx hb dX4_begin_12 rfl (lv_at hl 2 rfl) ?_
  refine lv_icmp_gt (tgt := 29) hx hb dX4_begin_13 (by decide) (fun c9 => absurd c9 (by decide)) (fun _ => ?_)
  refine lv_aload_n hx hb dX4_begin_16 rfl (lv_at hl 1 rfl) ?_
  refine va_get (D := (dC, dI)) (ci := 4) (v := .ref o_met) (C := RX4) (T := TX4) (N := 3) hx hb hts hin4 hown hK hP 0 rfl rfl 0 (by decide) (hts (.fieldLink RX4 9 "PathProber$Odds" "met" "[J") (List.mem_of_getElem? (i := 1) (by decide +kernel))) (fun _ h9 => h9) rfl dX4_begin_17 ?_
  refine lv_iload_n hx hb dX4_begin_20 rfl (lv_at hl 0 rfl) ?_
  refine lv_lconst (v := 0) hx hb dX4_begin_21 (by decide) ?_
  refine va_last hx hb hK hP hD hS 1 2 rfl rfl (vp_in_nI (n := 3) (by decide) (by decide)) dX4_begin_22 (fun H locs hP hD hS => ?_)
  have hP : va_P (dC, dI) vwCl [(o, .inr (4, oX4 o_met o_enough x_o)), (o_met, .inl (kJ, 23, .inr (.inl (vp_updL (vp_updL (vp_updL (vp_updL f1 0 1000000000000) 1 0) 2 0) 3 0))))] H := hP
  have hD : va_D A [(o, .inr (4, oX4 o_met o_enough x_o)), (o_met, .inl (kJ, 23, .inr (.inl (vp_updL (vp_updL (vp_updL (vp_updL f1 0 1000000000000) 1 0) 2 0) 3 0))))] := hD
  refine lv_iinc (v := 4) (lv' := [(2, .int 4), (0, .ref o), (1, .int 5)]) hx hb dX4_begin_23 hl (k := 0) rfl (by decide) (by decide) rfl (fun ls hl => ?_)
  refine lv_goto (tgt := 11) hx hb dX4_begin_26 (by decide) ?_
  refine lv_iload_n hx hb dX4_begin_11 rfl (lv_at hl 0 rfl) ?_
  refine lv_iload_n hx hb dX4_begin_12 rfl (lv_at hl 2 rfl) ?_
  refine lv_icmp_gt (tgt := 29) hx hb dX4_begin_13 (by decide) (fun c9 => absurd c9 (by decide)) (fun _ => ?_)
  refine lv_aload_n hx hb dX4_begin_16 rfl (lv_at hl 1 rfl) ?_
  refine va_get (D := (dC, dI)) (ci := 4) (v := .ref o_met) (C := RX4) (T := TX4) (N := 3) hx hb hts hin4 hown hK hP 0 rfl rfl 0 (by decide) (hts (.fieldLink RX4 9 "PathProber$Odds" "met" "[J") (List.mem_of_getElem? (i := 1) (by decide +kernel))) (fun _ h9 => h9) rfl dX4_begin_17 ?_
  refine lv_iload_n hx hb dX4_begin_20 rfl (lv_at hl 0 rfl) ?_
  refine lv_lconst (v := 0) hx hb dX4_begin_21 (by decide) ?_
  refine va_last hx hb hK hP hD hS 1 2 rfl rfl (vp_in_nI (n := 4) (by decide) (by decide)) dX4_begin_22 (fun H locs hP hD hS => ?_)
  have hP : va_P (dC, dI) vwCl [(o, .inr (4, oX4 o_met o_enough x_o)), (o_met, .inl (kJ, 23, .inr (.inl (vp_updL (vp_updL (vp_updL (vp_updL (vp_updL f1 0 1000000000000) 1 0) 2 0) 3 0) 4 0))))] H := hP
  have hD : va_D A [(o, .inr (4, oX4 o_met o_enough x_o)), (o_met, .inl (kJ, 23, .inr (.inl (vp_updL (vp_updL (vp_updL (vp_updL (vp_updL f1 0 1000000000000) 1 0) 2 0) 3 0) 4 0))))] := hD
  refine lv_iinc (v := 5) (lv' := [(2, .int 5), (0, .ref o), (1, .int 5)]) hx hb dX4_begin_23 hl (k := 0) rfl (by decide) (by decide) rfl (fun ls hl => ?_)
  refine lv_goto (tgt := 11) hx hb dX4_begin_26 (by decide) ?_
  refine lv_iload_n hx hb dX4_begin_11 rfl (lv_at hl 0 rfl) ?_
  refine lv_iload_n hx hb dX4_begin_12 rfl (lv_at hl 2 rfl) ?_
  refine lv_icmp_gt (tgt := 29) hx hb dX4_begin_13 (by decide) (fun c9 => absurd c9 (by decide)) (fun _ => ?_)
  refine lv_aload_n hx hb dX4_begin_16 rfl (lv_at hl 1 rfl) ?_
  refine va_get (D := (dC, dI)) (ci := 4) (v := .ref o_met) (C := RX4) (T := TX4) (N := 3) hx hb hts hin4 hown hK hP 0 rfl rfl 0 (by decide) (hts (.fieldLink RX4 9 "PathProber$Odds" "met" "[J") (List.mem_of_getElem? (i := 1) (by decide +kernel))) (fun _ h9 => h9) rfl dX4_begin_17 ?_
  refine lv_iload_n hx hb dX4_begin_20 rfl (lv_at hl 0 rfl) ?_
  refine lv_lconst (v := 0) hx hb dX4_begin_21 (by decide) ?_
  refine va_last hx hb hK hP hD hS 1 2 rfl rfl (vp_in_nI (n := 5) (by decide) (by decide)) dX4_begin_22 (fun H locs hP hD hS => ?_)
  have hP : va_P (dC, dI) vwCl [(o, .inr (4, oX4 o_met o_enough x_o)), (o_met, .inl (kJ, 23, .inr (.inl (vp_updL (vp_updL (vp_updL (vp_updL (vp_updL (vp_updL f1 0 1000000000000) 1 0) 2 0) 3 0) 4 0) 5 0))))] H := hP
  have hD : va_D A [(o, .inr (4, oX4 o_met o_enough x_o)), (o_met, .inl (kJ, 23, .inr (.inl (vp_updL (vp_updL (vp_updL (vp_updL (vp_updL (vp_updL f1 0 1000000000000) 1 0) 2 0) 3 0) 4 0) 5 0))))] := hD
  refine lv_iinc (v := 6) (lv' := [(2, .int 6), (0, .ref o), (1, .int 5)]) hx hb dX4_begin_23 hl (k := 0) rfl (by decide) (by decide) rfl (fun ls hl => ?_)
  refine lv_goto (tgt := 11) hx hb dX4_begin_26 (by decide) ?_
  refine lv_iload_n hx hb dX4_begin_11 rfl (lv_at hl 0 rfl) ?_
  refine lv_iload_n hx hb dX4_begin_12 rfl (lv_at hl 2 rfl) ?_
  refine lv_icmp_gt (tgt := 29) hx hb dX4_begin_13 (by decide) (fun _ => ?_) (fun c9 => absurd (by decide) c9)
  have hP9 := hP.sub (ws' := [(o, .inr (4, oX4 o_met o_enough x_o)), (o_met, .inl (kJ, 23, .inr (.inl (vp_updL (vp_updL (vp_updL (vp_updL (vp_updL (vp_updL f1 0 1000000000000) 1 0) 2 0) 3 0) 4 0) 5 0))))]) [0, 1] rfl
  have hD9 := hD.sub (ws' := [(o, .inr (4, oX4 o_met o_enough x_o)), (o_met, .inl (kJ, 23, .inr (.inl (vp_updL (vp_updL (vp_updL (vp_updL (vp_updL (vp_updL f1 0 1000000000000) 1 0) 2 0) 3 0) 4 0) 5 0))))]) [0, 1] (by decide) rfl
  exact W.vret hx hb hr (fun t ht hW => ⟨⟨(), rfl, trivial, vp_updL (vp_updL (vp_updL (vp_updL (vp_updL (vp_updL f1 0 1000000000000) 1 0) 2 0) 3 0) 4 0) 5 0, rfl, rfl, rfl, rfl, rfl, rfl, by rw [ht]; exact hP9, hD9⟩, hS.F ht⟩) hS.2.2 dX4_begin_29
def rm_e4_sendNext_5 : Room := { frames := 0, cells := 0, slots := 0, locals := 0 }
set_option maxHeartbeats 4000000 in
set_option maxRecDepth 100000 in
theorem e4_sendNext_5 (l : Launch) (dC : Nat → ClassId) (dI : Nat → Nat → Nat) (kB kI kJ kZ kC kS : ClassId) (sz : Nat) (o : Nat) (o_met : Nat) (o_enough : Nat) (x_o : Nat → Int32) (f1 : Nat → Int64) : Met l yX4_sendNext wsX4_sendNext rm_e4_sendNext_5 (va_Pc [.ref o, .int 5] (fun U => U.heap.size = sz ∧ va_P (dC, dI) vwCl [(o, .inr (4, oX4 o_met o_enough x_o)), (o_met, .inl (kJ, 23, .inr (.inl f1)))] U.heap ∧ kE dC dI kB kI kJ kZ kC kS U ∧ va_D (fun _ => True) [(o, .inr (4, oX4 o_met o_enough x_o)), (o_met, .inl (kJ, 23, .inr (.inl f1)))])) (va_Qv (fun (_ : Unit) => True) (fun _ t => ∃ (g1 : Nat → Int64), g1 0 = f1 0 * 0 / 5 ∧ g1 1 = f1 1 * 1 / 5 + (f1 0 - f1 0 * 0 / 5) ∧ g1 2 = f1 2 * 2 / 5 + (f1 1 - f1 1 * 1 / 5) ∧ g1 3 = f1 3 * 3 / 5 + (f1 2 - f1 2 * 2 / 5) ∧ g1 4 = f1 4 * 4 / 5 + (f1 3 - f1 3 * 3 / 5) ∧ g1 5 = f1 5 + (f1 4 - f1 4 * 4 / 5) ∧ va_P (dC, dI) vwCl [(o, .inr (4, oX4 o_met o_enough x_o)), (o_met, .inl (kJ, 23, .inr (.inl g1)))] t.heap ∧ va_D (va_A [(o, .inr (4, oX4 o_met o_enough x_o)), (o_met, .inl (kJ, 23, .inr (.inl f1)))] sz) [(o, .inr (4, oX4 o_met o_enough x_o)), (o_met, .inl (kJ, 23, .inr (.inl g1)))]) (va_A [(o, .inr (4, oX4 o_met o_enough x_o)), (o_met, .inl (kJ, 23, .inr (.inl f1)))] sz)) 0 0 (va_A [(o, .inr (4, oX4 o_met o_enough x_o)), (o_met, .inl (kJ, 23, .inr (.inl f1)))] sz) := by
  refine Met.ofW (cc := cX4_sendNext) (maxL := 5) (ret := none) (by decide) rfl ?_
  intro p e s m args0 below meth c s₁ B hml hv
  obtain ⟨hargs, hsz, hP, hE, hD0⟩ := hv
  have hx := B.exec
  have hb := B.bytes
  have hr := B.returns
  have hts := atoms_spec (ws := wsX4_sendNext) B.pre
  have hown : s.vm.findClass RX4 = some m.cls := findClass_of_methodNamed B.named
  have hlocks := B.notSynchronized
  have hK := hE.1
  have hin4 : ∀ w ∈ wsX40, w ∈ wsX4_sendNext := fun _ h9 => List.mem_cons_of_mem _ (List.mem_append_right _ h9)
  subst hsz
  have hD := hD0.self (sz := s.heap.size)
  generalize hAe : va_A [(o, .inr (4, oX4 o_met o_enough x_o)), (o_met, .inl (kJ, 23, .inr (.inl f1)))] s.heap.size = A at hD ⊢
  have hA : ∀ q : Nat, s.heap.size ≤ q → A q := fun q h => by rw [← hAe]; exact Or.inr h
  have hS : va_S A s.heap s.heap [] := va_S.rf
  have hP : va_P (dC, dI) vwCl [(o, .inr (4, oX4 o_met o_enough x_o)), (o_met, .inl (kJ, 23, .inr (.inl f1)))] s.heap := hP
  have hl := lv_entry ([.ref o, .int 5]) (n := 5) (Nat.le_of_ble_eq_true rfl)
  have hla : entryFrame m args0 5 = entryFrame m ([.ref o, .int 5] : List Value).toArray 5 := by rw [hargs]
  rw [hla, lg_entry_eq]
  generalize (lg_sl ([.ref o, .int 5]) ++ List.replicate (5 - (lg_sl ([.ref o, .int 5])).length) Slot.unset).toArray = ls at hl ⊢
  have hl : lv_has ls 5 [(0, .ref o), (1, .int 5)] := hl
  refine lv_iload_n hx hb dX4_sendNext_0 rfl (lv_at hl 1 rfl) ?_
  refine lv_iconst (v := 1) hx hb dX4_sendNext_1 (by decide) ?_
  refine lv_icmp_lt (tgt := 14) hx hb dX4_sendNext_2 (by decide) (fun c9 => absurd c9 (by decide)) (fun _ => ?_)
  refine lv_iload_n hx hb dX4_sendNext_5 rfl (lv_at hl 1 rfl) ?_
  refine lv_aload_n hx hb dX4_sendNext_6 rfl (lv_at hl 0 rfl) ?_
  refine va_get (D := (dC, dI)) (ci := 4) (v := .ref o_met) (C := RX4) (T := TX4) (N := 3) hx hb hts hin4 hown hK hP 0 rfl rfl 0 (by decide) (hts (.fieldLink RX4 9 "PathProber$Odds" "met" "[J") (List.mem_of_getElem? (i := 1) (by decide +kernel))) (fun _ h9 => h9) rfl dX4_sendNext_7 ?_
  refine va_alen (v := 23) hx hb hK hP 1 2 rfl rfl rfl dX4_sendNext_10 ?_
  refine lv_icmp_lt (tgt := 15) hx hb dX4_sendNext_11 (by decide) (fun _ => ?_) (fun c9 => absurd (by decide) c9)
  refine lv_iload_n hx hb dX4_sendNext_15 rfl (lv_at hl 1 rfl) ?_
  refine lv_iconst (v := 1) hx hb dX4_sendNext_16 (by decide) ?_
  refine lv_isub hx hb dX4_sendNext_17 ?_
  refine lv_topi (fun z1 e2 => ?_)
  obtain rfl : z1 = (4 : Int32) := e2.trans (by decide)
  refine lv_istore_n (lv' := [(2, .int 4), (0, .ref o), (1, .int 5)]) hx hb dX4_sendNext_18 rfl hl (by decide) rfl (fun ls hl => ?_)
  refine lv_iload_n hx hb dX4_sendNext_19 rfl (lv_at hl 0 rfl) ?_
  refine lv_if_lt (tgt := 68) hx hb dX4_sendNext_20 (by decide) (fun c9 => absurd c9 (by decide)) (fun _ => ?_)
  refine lv_aload_n hx hb dX4_sendNext_23 rfl (lv_at hl 1 rfl) ?_
  refine va_get (D := (dC, dI)) (ci := 4) (v := .ref o_met) (C := RX4) (T := TX4) (N := 3) hx hb hts hin4 hown hK hP 0 rfl rfl 0 (by decide) (hts (.fieldLink RX4 9 "PathProber$Odds" "met" "[J") (List.mem_of_getElem? (i := 1) (by decide +kernel))) (fun _ h9 => h9) rfl dX4_sendNext_24 ?_
  refine lv_iload_n hx hb dX4_sendNext_27 rfl (lv_at hl 0 rfl) ?_
  refine va_lald hx hb hK hP 1 2 rfl rfl (vp_in_nI (n := 4) (by decide) (by decide)) dX4_sendNext_28 ?_
  refine lv_topl (fun z3 e4 => ?_)
  obtain rfl : z3 = (f1 4 : Int64) := e4
  refine lv_iload_n hx hb dX4_sendNext_29 rfl (lv_at hl 0 rfl) ?_
  refine lv_i2l (v := 4) hx hb dX4_sendNext_30 (by decide) ?_
  refine lv_lmul hx hb dX4_sendNext_31 ?_
  refine lv_iload_n hx hb dX4_sendNext_32 rfl (lv_at hl 2 rfl) ?_
  refine lv_i2l (v := 5) hx hb dX4_sendNext_33 (by decide) ?_
  refine lv_ldiv hx hb dX4_sendNext_34 (by decide) ?_
  refine lv_lstore_n (lv' := [(3, .long (((f1 4) * 4) / 5)), (2, .int 4), (0, .ref o), (1, .int 5)]) hx hb dX4_sendNext_35 rfl hl (by decide) rfl (fun ls hl => ?_)
  refine lv_aload_n hx hb dX4_sendNext_36 rfl (lv_at hl 2 rfl) ?_
  refine va_get (D := (dC, dI)) (ci := 4) (v := .ref o_met) (C := RX4) (T := TX4) (N := 3) hx hb hts hin4 hown hK hP 0 rfl rfl 0 (by decide) (hts (.fieldLink RX4 9 "PathProber$Odds" "met" "[J") (List.mem_of_getElem? (i := 1) (by decide +kernel))) (fun _ h9 => h9) rfl dX4_sendNext_37 ?_
  refine lv_iload_n hx hb dX4_sendNext_40 rfl (lv_at hl 1 rfl) ?_
  refine lv_iconst (v := 1) hx hb dX4_sendNext_41 (by decide) ?_
  refine lv_iadd hx hb dX4_sendNext_42 ?_
  refine lv_topi (fun z5 e6 => ?_)
  obtain rfl : z5 = (5 : Int32) := e6.trans (by decide)
  refine lv_dup2_11 hx hb dX4_sendNext_43 rfl rfl ?_
  refine va_lald hx hb hK hP 1 2 rfl rfl (vp_in_nI (n := 5) (by decide) (by decide)) dX4_sendNext_44 ?_
  refine lv_topl (fun z7 e8 => ?_)
  obtain rfl : z7 = (f1 5 : Int64) := e8
  refine lv_aload_n hx hb dX4_sendNext_45 rfl (lv_at hl 2 rfl) ?_
  refine va_get (D := (dC, dI)) (ci := 4) (v := .ref o_met) (C := RX4) (T := TX4) (N := 3) hx hb hts hin4 hown hK hP 0 rfl rfl 0 (by decide) (hts (.fieldLink RX4 9 "PathProber$Odds" "met" "[J") (List.mem_of_getElem? (i := 1) (by decide +kernel))) (fun _ h9 => h9) rfl dX4_sendNext_46 ?_
  refine lv_iload_n hx hb dX4_sendNext_49 rfl (lv_at hl 1 rfl) ?_
  refine va_lald hx hb hK hP 1 2 rfl rfl (vp_in_nI (n := 4) (by decide) (by decide)) dX4_sendNext_50 ?_
  refine lv_topl (fun z9 e10 => ?_)
  obtain rfl : z9 = (f1 4 : Int64) := e10
  refine lv_lload_n hx hb dX4_sendNext_51 rfl (lv_at hl 0 rfl) ?_
  refine lv_lsub hx hb dX4_sendNext_52 ?_
  refine lv_ladd hx hb dX4_sendNext_53 ?_
  refine va_last hx hb hK hP hD hS 1 2 rfl rfl (vp_in_nI (n := 5) (by decide) (by decide)) dX4_sendNext_54 (fun H locs hP hD hS => ?_)
  have hP : va_P (dC, dI) vwCl [(o, .inr (4, oX4 o_met o_enough x_o)), (o_met, .inl (kJ, 23, .inr (.inl (vp_updL f1 5 ((f1 5) + ((f1 4) - (((f1 4) * 4) / 5)))))))] H := hP
  have hD : va_D A [(o, .inr (4, oX4 o_met o_enough x_o)), (o_met, .inl (kJ, 23, .inr (.inl (vp_updL f1 5 ((f1 5) + ((f1 4) - (((f1 4) * 4) / 5)))))))] := hD
  refine lv_aload_n hx hb dX4_sendNext_55 rfl (lv_at hl 2 rfl) ?_
  refine va_get (D := (dC, dI)) (ci := 4) (v := .ref o_met) (C := RX4) (T := TX4) (N := 3) hx hb hts hin4 hown hK hP 0 rfl rfl 0 (by decide) (hts (.fieldLink RX4 9 "PathProber$Odds" "met" "[J") (List.mem_of_getElem? (i := 1) (by decide +kernel))) (fun _ h9 => h9) rfl dX4_sendNext_56 ?_
  refine lv_iload_n hx hb dX4_sendNext_59 rfl (lv_at hl 1 rfl) ?_
  refine lv_lload_n hx hb dX4_sendNext_60 rfl (lv_at hl 0 rfl) ?_
  refine va_last hx hb hK hP hD hS 1 2 rfl rfl (vp_in_nI (n := 4) (by decide) (by decide)) dX4_sendNext_61 (fun H locs hP hD hS => ?_)
  have hP : va_P (dC, dI) vwCl [(o, .inr (4, oX4 o_met o_enough x_o)), (o_met, .inl (kJ, 23, .inr (.inl (vp_updL (vp_updL f1 5 ((f1 5) + ((f1 4) - (((f1 4) * 4) / 5)))) 4 (((f1 4) * 4) / 5)))))] H := hP
  have hD : va_D A [(o, .inr (4, oX4 o_met o_enough x_o)), (o_met, .inl (kJ, 23, .inr (.inl (vp_updL (vp_updL f1 5 ((f1 5) + ((f1 4) - (((f1 4) * 4) / 5)))) 4 (((f1 4) * 4) / 5)))))] := hD
  refine lv_iinc (v := 3) (lv' := [(2, .int 3), (3, .long (((f1 4) * 4) / 5)), (0, .ref o), (1, .int 5)]) hx hb dX4_sendNext_62 hl (k := 1) rfl (by decide) (by decide) rfl (fun ls hl => ?_)
  refine lv_goto (tgt := 19) hx hb dX4_sendNext_65 (by decide) ?_
  refine lv_iload_n hx hb dX4_sendNext_19 rfl (lv_at hl 0 rfl) ?_
  refine lv_if_lt (tgt := 68) hx hb dX4_sendNext_20 (by decide) (fun c9 => absurd c9 (by decide)) (fun _ => ?_)
  refine lv_aload_n hx hb dX4_sendNext_23 rfl (lv_at hl 2 rfl) ?_
  refine va_get (D := (dC, dI)) (ci := 4) (v := .ref o_met) (C := RX4) (T := TX4) (N := 3) hx hb hts hin4 hown hK hP 0 rfl rfl 0 (by decide) (hts (.fieldLink RX4 9 "PathProber$Odds" "met" "[J") (List.mem_of_getElem? (i := 1) (by decide +kernel))) (fun _ h9 => h9) rfl dX4_sendNext_24 ?_
  refine lv_iload_n hx hb dX4_sendNext_27 rfl (lv_at hl 0 rfl) ?_
  refine va_lald hx hb hK hP 1 2 rfl rfl (vp_in_nI (n := 3) (by decide) (by decide)) dX4_sendNext_28 ?_
  refine lv_topl (fun z11 e12 => ?_)
  obtain rfl : z11 = (f1 3 : Int64) := e12
  refine lv_iload_n hx hb dX4_sendNext_29 rfl (lv_at hl 0 rfl) ?_
  refine lv_i2l (v := 3) hx hb dX4_sendNext_30 (by decide) ?_
  refine lv_lmul hx hb dX4_sendNext_31 ?_
  refine lv_iload_n hx hb dX4_sendNext_32 rfl (lv_at hl 3 rfl) ?_
  refine lv_i2l (v := 5) hx hb dX4_sendNext_33 (by decide) ?_
  refine lv_ldiv hx hb dX4_sendNext_34 (by decide) ?_
  refine lv_lstore_n (lv' := [(3, .long (((f1 3) * 3) / 5)), (2, .int 3), (0, .ref o), (1, .int 5)]) hx hb dX4_sendNext_35 rfl hl (by decide) rfl (fun ls hl => ?_)
  refine lv_aload_n hx hb dX4_sendNext_36 rfl (lv_at hl 2 rfl) ?_
  refine va_get (D := (dC, dI)) (ci := 4) (v := .ref o_met) (C := RX4) (T := TX4) (N := 3) hx hb hts hin4 hown hK hP 0 rfl rfl 0 (by decide) (hts (.fieldLink RX4 9 "PathProber$Odds" "met" "[J") (List.mem_of_getElem? (i := 1) (by decide +kernel))) (fun _ h9 => h9) rfl dX4_sendNext_37 ?_
  refine lv_iload_n hx hb dX4_sendNext_40 rfl (lv_at hl 1 rfl) ?_
  refine lv_iconst (v := 1) hx hb dX4_sendNext_41 (by decide) ?_
  refine lv_iadd hx hb dX4_sendNext_42 ?_
  refine lv_topi (fun z13 e14 => ?_)
  obtain rfl : z13 = (4 : Int32) := e14.trans (by decide)
  refine lv_dup2_11 hx hb dX4_sendNext_43 rfl rfl ?_
  refine va_lald hx hb hK hP 1 2 rfl rfl (vp_in_nI (n := 4) (by decide) (by decide)) dX4_sendNext_44 ?_
  refine lv_topl (fun z15 e16 => ?_)
  obtain rfl : z15 = (((f1 4) * 4) / 5 : Int64) := e16
  refine lv_aload_n hx hb dX4_sendNext_45 rfl (lv_at hl 2 rfl) ?_
  refine va_get (D := (dC, dI)) (ci := 4) (v := .ref o_met) (C := RX4) (T := TX4) (N := 3) hx hb hts hin4 hown hK hP 0 rfl rfl 0 (by decide) (hts (.fieldLink RX4 9 "PathProber$Odds" "met" "[J") (List.mem_of_getElem? (i := 1) (by decide +kernel))) (fun _ h9 => h9) rfl dX4_sendNext_46 ?_
  refine lv_iload_n hx hb dX4_sendNext_49 rfl (lv_at hl 1 rfl) ?_
  refine va_lald hx hb hK hP 1 2 rfl rfl (vp_in_nI (n := 3) (by decide) (by decide)) dX4_sendNext_50 ?_
  refine lv_topl (fun z17 e18 => ?_)
  obtain rfl : z17 = (f1 3 : Int64) := e18
  refine lv_lload_n hx hb dX4_sendNext_51 rfl (lv_at hl 0 rfl) ?_
  refine lv_lsub hx hb dX4_sendNext_52 ?_
  refine lv_ladd hx hb dX4_sendNext_53 ?_
  refine va_last hx hb hK hP hD hS 1 2 rfl rfl (vp_in_nI (n := 4) (by decide) (by decide)) dX4_sendNext_54 (fun H locs hP hD hS => ?_)
  have hP : va_P (dC, dI) vwCl [(o, .inr (4, oX4 o_met o_enough x_o)), (o_met, .inl (kJ, 23, .inr (.inl (vp_updL (vp_updL (vp_updL f1 5 ((f1 5) + ((f1 4) - (((f1 4) * 4) / 5)))) 4 (((f1 4) * 4) / 5)) 4 ((((f1 4) * 4) / 5) + ((f1 3) - (((f1 3) * 3) / 5)))))))] H := hP
  have hD : va_D A [(o, .inr (4, oX4 o_met o_enough x_o)), (o_met, .inl (kJ, 23, .inr (.inl (vp_updL (vp_updL (vp_updL f1 5 ((f1 5) + ((f1 4) - (((f1 4) * 4) / 5)))) 4 (((f1 4) * 4) / 5)) 4 ((((f1 4) * 4) / 5) + ((f1 3) - (((f1 3) * 3) / 5)))))))] := hD
  refine lv_aload_n hx hb dX4_sendNext_55 rfl (lv_at hl 2 rfl) ?_
  refine va_get (D := (dC, dI)) (ci := 4) (v := .ref o_met) (C := RX4) (T := TX4) (N := 3) hx hb hts hin4 hown hK hP 0 rfl rfl 0 (by decide) (hts (.fieldLink RX4 9 "PathProber$Odds" "met" "[J") (List.mem_of_getElem? (i := 1) (by decide +kernel))) (fun _ h9 => h9) rfl dX4_sendNext_56 ?_
  refine lv_iload_n hx hb dX4_sendNext_59 rfl (lv_at hl 1 rfl) ?_
  refine lv_lload_n hx hb dX4_sendNext_60 rfl (lv_at hl 0 rfl) ?_
  refine va_last hx hb hK hP hD hS 1 2 rfl rfl (vp_in_nI (n := 3) (by decide) (by decide)) dX4_sendNext_61 (fun H locs hP hD hS => ?_)
  have hP : va_P (dC, dI) vwCl [(o, .inr (4, oX4 o_met o_enough x_o)), (o_met, .inl (kJ, 23, .inr (.inl (vp_updL (vp_updL (vp_updL (vp_updL f1 5 ((f1 5) + ((f1 4) - (((f1 4) * 4) / 5)))) 4 (((f1 4) * 4) / 5)) 4 ((((f1 4) * 4) / 5) + ((f1 3) - (((f1 3) * 3) / 5)))) 3 (((f1 3) * 3) / 5)))))] H := hP
  have hD : va_D A [(o, .inr (4, oX4 o_met o_enough x_o)), (o_met, .inl (kJ, 23, .inr (.inl (vp_updL (vp_updL (vp_updL (vp_updL f1 5 ((f1 5) + ((f1 4) - (((f1 4) * 4) / 5)))) 4 (((f1 4) * 4) / 5)) 4 ((((f1 4) * 4) / 5) + ((f1 3) - (((f1 3) * 3) / 5)))) 3 (((f1 3) * 3) / 5)))))] := hD
  refine lv_iinc (v := 2) (lv' := [(2, .int 2), (3, .long (((f1 3) * 3) / 5)), (0, .ref o), (1, .int 5)]) hx hb dX4_sendNext_62 hl (k := 1) rfl (by decide) (by decide) rfl (fun ls hl => ?_)
  refine lv_goto (tgt := 19) hx hb dX4_sendNext_65 (by decide) ?_
  refine lv_iload_n hx hb dX4_sendNext_19 rfl (lv_at hl 0 rfl) ?_
  refine lv_if_lt (tgt := 68) hx hb dX4_sendNext_20 (by decide) (fun c9 => absurd c9 (by decide)) (fun _ => ?_)
  refine lv_aload_n hx hb dX4_sendNext_23 rfl (lv_at hl 2 rfl) ?_
  refine va_get (D := (dC, dI)) (ci := 4) (v := .ref o_met) (C := RX4) (T := TX4) (N := 3) hx hb hts hin4 hown hK hP 0 rfl rfl 0 (by decide) (hts (.fieldLink RX4 9 "PathProber$Odds" "met" "[J") (List.mem_of_getElem? (i := 1) (by decide +kernel))) (fun _ h9 => h9) rfl dX4_sendNext_24 ?_
  refine lv_iload_n hx hb dX4_sendNext_27 rfl (lv_at hl 0 rfl) ?_
  refine va_lald hx hb hK hP 1 2 rfl rfl (vp_in_nI (n := 2) (by decide) (by decide)) dX4_sendNext_28 ?_
  refine lv_topl (fun z19 e20 => ?_)
  obtain rfl : z19 = (f1 2 : Int64) := e20
  refine lv_iload_n hx hb dX4_sendNext_29 rfl (lv_at hl 0 rfl) ?_
  refine lv_i2l (v := 2) hx hb dX4_sendNext_30 (by decide) ?_
  refine lv_lmul hx hb dX4_sendNext_31 ?_
  refine lv_iload_n hx hb dX4_sendNext_32 rfl (lv_at hl 3 rfl) ?_
  refine lv_i2l (v := 5) hx hb dX4_sendNext_33 (by decide) ?_
  refine lv_ldiv hx hb dX4_sendNext_34 (by decide) ?_
  refine lv_lstore_n (lv' := [(3, .long (((f1 2) * 2) / 5)), (2, .int 2), (0, .ref o), (1, .int 5)]) hx hb dX4_sendNext_35 rfl hl (by decide) rfl (fun ls hl => ?_)
  refine lv_aload_n hx hb dX4_sendNext_36 rfl (lv_at hl 2 rfl) ?_
  refine va_get (D := (dC, dI)) (ci := 4) (v := .ref o_met) (C := RX4) (T := TX4) (N := 3) hx hb hts hin4 hown hK hP 0 rfl rfl 0 (by decide) (hts (.fieldLink RX4 9 "PathProber$Odds" "met" "[J") (List.mem_of_getElem? (i := 1) (by decide +kernel))) (fun _ h9 => h9) rfl dX4_sendNext_37 ?_
  refine lv_iload_n hx hb dX4_sendNext_40 rfl (lv_at hl 1 rfl) ?_
  refine lv_iconst (v := 1) hx hb dX4_sendNext_41 (by decide) ?_
  refine lv_iadd hx hb dX4_sendNext_42 ?_
  refine lv_topi (fun z21 e22 => ?_)
  obtain rfl : z21 = (3 : Int32) := e22.trans (by decide)
  refine lv_dup2_11 hx hb dX4_sendNext_43 rfl rfl ?_
  refine va_lald hx hb hK hP 1 2 rfl rfl (vp_in_nI (n := 3) (by decide) (by decide)) dX4_sendNext_44 ?_
  refine lv_topl (fun z23 e24 => ?_)
  obtain rfl : z23 = (((f1 3) * 3) / 5 : Int64) := e24
  refine lv_aload_n hx hb dX4_sendNext_45 rfl (lv_at hl 2 rfl) ?_
  refine va_get (D := (dC, dI)) (ci := 4) (v := .ref o_met) (C := RX4) (T := TX4) (N := 3) hx hb hts hin4 hown hK hP 0 rfl rfl 0 (by decide) (hts (.fieldLink RX4 9 "PathProber$Odds" "met" "[J") (List.mem_of_getElem? (i := 1) (by decide +kernel))) (fun _ h9 => h9) rfl dX4_sendNext_46 ?_
  refine lv_iload_n hx hb dX4_sendNext_49 rfl (lv_at hl 1 rfl) ?_
  refine va_lald hx hb hK hP 1 2 rfl rfl (vp_in_nI (n := 2) (by decide) (by decide)) dX4_sendNext_50 ?_
  refine lv_topl (fun z25 e26 => ?_)
  obtain rfl : z25 = (f1 2 : Int64) := e26
  refine lv_lload_n hx hb dX4_sendNext_51 rfl (lv_at hl 0 rfl) ?_
  refine lv_lsub hx hb dX4_sendNext_52 ?_
  refine lv_ladd hx hb dX4_sendNext_53 ?_
  refine va_last hx hb hK hP hD hS 1 2 rfl rfl (vp_in_nI (n := 3) (by decide) (by decide)) dX4_sendNext_54 (fun H locs hP hD hS => ?_)
  have hP : va_P (dC, dI) vwCl [(o, .inr (4, oX4 o_met o_enough x_o)), (o_met, .inl (kJ, 23, .inr (.inl (vp_updL (vp_updL (vp_updL (vp_updL (vp_updL f1 5 ((f1 5) + ((f1 4) - (((f1 4) * 4) / 5)))) 4 (((f1 4) * 4) / 5)) 4 ((((f1 4) * 4) / 5) + ((f1 3) - (((f1 3) * 3) / 5)))) 3 (((f1 3) * 3) / 5)) 3 ((((f1 3) * 3) / 5) + ((f1 2) - (((f1 2) * 2) / 5)))))))] H := hP
  have hD : va_D A [(o, .inr (4, oX4 o_met o_enough x_o)), (o_met, .inl (kJ, 23, .inr (.inl (vp_updL (vp_updL (vp_updL (vp_updL (vp_updL f1 5 ((f1 5) + ((f1 4) - (((f1 4) * 4) / 5)))) 4 (((f1 4) * 4) / 5)) 4 ((((f1 4) * 4) / 5) + ((f1 3) - (((f1 3) * 3) / 5)))) 3 (((f1 3) * 3) / 5)) 3 ((((f1 3) * 3) / 5) + ((f1 2) - (((f1 2) * 2) / 5)))))))] := hD
  refine lv_aload_n hx hb dX4_sendNext_55 rfl (lv_at hl 2 rfl) ?_
  refine va_get (D := (dC, dI)) (ci := 4) (v := .ref o_met) (C := RX4) (T := TX4) (N := 3) hx hb hts hin4 hown hK hP 0 rfl rfl 0 (by decide) (hts (.fieldLink RX4 9 "PathProber$Odds" "met" "[J") (List.mem_of_getElem? (i := 1) (by decide +kernel))) (fun _ h9 => h9) rfl dX4_sendNext_56 ?_
  refine lv_iload_n hx hb dX4_sendNext_59 rfl (lv_at hl 1 rfl) ?_
  refine lv_lload_n hx hb dX4_sendNext_60 rfl (lv_at hl 0 rfl) ?_
  refine va_last hx hb hK hP hD hS 1 2 rfl rfl (vp_in_nI (n := 2) (by decide) (by decide)) dX4_sendNext_61 (fun H locs hP hD hS => ?_)
  have hP : va_P (dC, dI) vwCl [(o, .inr (4, oX4 o_met o_enough x_o)), (o_met, .inl (kJ, 23, .inr (.inl (vp_updL (vp_updL (vp_updL (vp_updL (vp_updL (vp_updL f1 5 ((f1 5) + ((f1 4) - (((f1 4) * 4) / 5)))) 4 (((f1 4) * 4) / 5)) 4 ((((f1 4) * 4) / 5) + ((f1 3) - (((f1 3) * 3) / 5)))) 3 (((f1 3) * 3) / 5)) 3 ((((f1 3) * 3) / 5) + ((f1 2) - (((f1 2) * 2) / 5)))) 2 (((f1 2) * 2) / 5)))))] H := hP
  have hD : va_D A [(o, .inr (4, oX4 o_met o_enough x_o)), (o_met, .inl (kJ, 23, .inr (.inl (vp_updL (vp_updL (vp_updL (vp_updL (vp_updL (vp_updL f1 5 ((f1 5) + ((f1 4) - (((f1 4) * 4) / 5)))) 4 (((f1 4) * 4) / 5)) 4 ((((f1 4) * 4) / 5) + ((f1 3) - (((f1 3) * 3) / 5)))) 3 (((f1 3) * 3) / 5)) 3 ((((f1 3) * 3) / 5) + ((f1 2) - (((f1 2) * 2) / 5)))) 2 (((f1 2) * 2) / 5)))))] := hD
  refine lv_iinc (v := 1) (lv' := [(2, .int 1), (3, .long (((f1 2) * 2) / 5)), (0, .ref o), (1, .int 5)]) hx hb dX4_sendNext_62 hl (k := 1) rfl (by decide) (by decide) rfl (fun ls hl => ?_)
  refine lv_goto (tgt := 19) hx hb dX4_sendNext_65 (by decide) ?_
  refine lv_iload_n hx hb dX4_sendNext_19 rfl (lv_at hl 0 rfl) ?_
  refine lv_if_lt (tgt := 68) hx hb dX4_sendNext_20 (by decide) (fun c9 => absurd c9 (by decide)) (fun _ => ?_)
  refine lv_aload_n hx hb dX4_sendNext_23 rfl (lv_at hl 2 rfl) ?_
  refine va_get (D := (dC, dI)) (ci := 4) (v := .ref o_met) (C := RX4) (T := TX4) (N := 3) hx hb hts hin4 hown hK hP 0 rfl rfl 0 (by decide) (hts (.fieldLink RX4 9 "PathProber$Odds" "met" "[J") (List.mem_of_getElem? (i := 1) (by decide +kernel))) (fun _ h9 => h9) rfl dX4_sendNext_24 ?_
  refine lv_iload_n hx hb dX4_sendNext_27 rfl (lv_at hl 0 rfl) ?_
  refine va_lald hx hb hK hP 1 2 rfl rfl (vp_in_nI (n := 1) (by decide) (by decide)) dX4_sendNext_28 ?_
  refine lv_topl (fun z27 e28 => ?_)
  obtain rfl : z27 = (f1 1 : Int64) := e28
  refine lv_iload_n hx hb dX4_sendNext_29 rfl (lv_at hl 0 rfl) ?_
  refine lv_i2l (v := 1) hx hb dX4_sendNext_30 (by decide) ?_
  refine lv_lmul hx hb dX4_sendNext_31 ?_
  refine lv_iload_n hx hb dX4_sendNext_32 rfl (lv_at hl 3 rfl) ?_
  refine lv_i2l (v := 5) hx hb dX4_sendNext_33 (by decide) ?_
  refine lv_ldiv hx hb dX4_sendNext_34 (by decide) ?_
  refine lv_lstore_n (lv' := [(3, .long (((f1 1) * 1) / 5)), (2, .int 1), (0, .ref o), (1, .int 5)]) hx hb dX4_sendNext_35 rfl hl (by decide) rfl (fun ls hl => ?_)
  refine lv_aload_n hx hb dX4_sendNext_36 rfl (lv_at hl 2 rfl) ?_
  refine va_get (D := (dC, dI)) (ci := 4) (v := .ref o_met) (C := RX4) (T := TX4) (N := 3) hx hb hts hin4 hown hK hP 0 rfl rfl 0 (by decide) (hts (.fieldLink RX4 9 "PathProber$Odds" "met" "[J") (List.mem_of_getElem? (i := 1) (by decide +kernel))) (fun _ h9 => h9) rfl dX4_sendNext_37 ?_
  refine lv_iload_n hx hb dX4_sendNext_40 rfl (lv_at hl 1 rfl) ?_
  refine lv_iconst (v := 1) hx hb dX4_sendNext_41 (by decide) ?_
  refine lv_iadd hx hb dX4_sendNext_42 ?_
  refine lv_topi (fun z29 e30 => ?_)
  obtain rfl : z29 = (2 : Int32) := e30.trans (by decide)
  refine lv_dup2_11 hx hb dX4_sendNext_43 rfl rfl ?_
  refine va_lald hx hb hK hP 1 2 rfl rfl (vp_in_nI (n := 2) (by decide) (by decide)) dX4_sendNext_44 ?_
  refine lv_topl (fun z31 e32 => ?_)
  obtain rfl : z31 = (((f1 2) * 2) / 5 : Int64) := e32
  refine lv_aload_n hx hb dX4_sendNext_45 rfl (lv_at hl 2 rfl) ?_
  refine va_get (D := (dC, dI)) (ci := 4) (v := .ref o_met) (C := RX4) (T := TX4) (N := 3) hx hb hts hin4 hown hK hP 0 rfl rfl 0 (by decide) (hts (.fieldLink RX4 9 "PathProber$Odds" "met" "[J") (List.mem_of_getElem? (i := 1) (by decide +kernel))) (fun _ h9 => h9) rfl dX4_sendNext_46 ?_
  refine lv_iload_n hx hb dX4_sendNext_49 rfl (lv_at hl 1 rfl) ?_
  refine va_lald hx hb hK hP 1 2 rfl rfl (vp_in_nI (n := 1) (by decide) (by decide)) dX4_sendNext_50 ?_
  refine lv_topl (fun z33 e34 => ?_)
  obtain rfl : z33 = (f1 1 : Int64) := e34
  refine lv_lload_n hx hb dX4_sendNext_51 rfl (lv_at hl 0 rfl) ?_
  refine lv_lsub hx hb dX4_sendNext_52 ?_
  refine lv_ladd hx hb dX4_sendNext_53 ?_
  refine va_last hx hb hK hP hD hS 1 2 rfl rfl (vp_in_nI (n := 2) (by decide) (by decide)) dX4_sendNext_54 (fun H locs hP hD hS => ?_)
  have hP : va_P (dC, dI) vwCl [(o, .inr (4, oX4 o_met o_enough x_o)), (o_met, .inl (kJ, 23, .inr (.inl (vp_updL (vp_updL (vp_updL (vp_updL (vp_updL (vp_updL (vp_updL f1 5 ((f1 5) + ((f1 4) - (((f1 4) * 4) / 5)))) 4 (((f1 4) * 4) / 5)) 4 ((((f1 4) * 4) / 5) + ((f1 3) - (((f1 3) * 3) / 5)))) 3 (((f1 3) * 3) / 5)) 3 ((((f1 3) * 3) / 5) + ((f1 2) - (((f1 2) * 2) / 5)))) 2 (((f1 2) * 2) / 5)) 2 ((((f1 2) * 2) / 5) + ((f1 1) - (((f1 1) * 1) / 5)))))))] H := hP
  have hD : va_D A [(o, .inr (4, oX4 o_met o_enough x_o)), (o_met, .inl (kJ, 23, .inr (.inl (vp_updL (vp_updL (vp_updL (vp_updL (vp_updL (vp_updL (vp_updL f1 5 ((f1 5) + ((f1 4) - (((f1 4) * 4) / 5)))) 4 (((f1 4) * 4) / 5)) 4 ((((f1 4) * 4) / 5) + ((f1 3) - (((f1 3) * 3) / 5)))) 3 (((f1 3) * 3) / 5)) 3 ((((f1 3) * 3) / 5) + ((f1 2) - (((f1 2) * 2) / 5)))) 2 (((f1 2) * 2) / 5)) 2 ((((f1 2) * 2) / 5) + ((f1 1) - (((f1 1) * 1) / 5)))))))] := hD
  refine lv_aload_n hx hb dX4_sendNext_55 rfl (lv_at hl 2 rfl) ?_
  refine va_get (D := (dC, dI)) (ci := 4) (v := .ref o_met) (C := RX4) (T := TX4) (N := 3) hx hb hts hin4 hown hK hP 0 rfl rfl 0 (by decide) (hts (.fieldLink RX4 9 "PathProber$Odds" "met" "[J") (List.mem_of_getElem? (i := 1) (by decide +kernel))) (fun _ h9 => h9) rfl dX4_sendNext_56 ?_
  refine lv_iload_n hx hb dX4_sendNext_59 rfl (lv_at hl 1 rfl) ?_
  refine lv_lload_n hx hb dX4_sendNext_60 rfl (lv_at hl 0 rfl) ?_
  refine va_last hx hb hK hP hD hS 1 2 rfl rfl (vp_in_nI (n := 1) (by decide) (by decide)) dX4_sendNext_61 (fun H locs hP hD hS => ?_)
  have hP : va_P (dC, dI) vwCl [(o, .inr (4, oX4 o_met o_enough x_o)), (o_met, .inl (kJ, 23, .inr (.inl (vp_updL (vp_updL (vp_updL (vp_updL (vp_updL (vp_updL (vp_updL (vp_updL f1 5 ((f1 5) + ((f1 4) - (((f1 4) * 4) / 5)))) 4 (((f1 4) * 4) / 5)) 4 ((((f1 4) * 4) / 5) + ((f1 3) - (((f1 3) * 3) / 5)))) 3 (((f1 3) * 3) / 5)) 3 ((((f1 3) * 3) / 5) + ((f1 2) - (((f1 2) * 2) / 5)))) 2 (((f1 2) * 2) / 5)) 2 ((((f1 2) * 2) / 5) + ((f1 1) - (((f1 1) * 1) / 5)))) 1 (((f1 1) * 1) / 5)))))] H := hP
  have hD : va_D A [(o, .inr (4, oX4 o_met o_enough x_o)), (o_met, .inl (kJ, 23, .inr (.inl (vp_updL (vp_updL (vp_updL (vp_updL (vp_updL (vp_updL (vp_updL (vp_updL f1 5 ((f1 5) + ((f1 4) - (((f1 4) * 4) / 5)))) 4 (((f1 4) * 4) / 5)) 4 ((((f1 4) * 4) / 5) + ((f1 3) - (((f1 3) * 3) / 5)))) 3 (((f1 3) * 3) / 5)) 3 ((((f1 3) * 3) / 5) + ((f1 2) - (((f1 2) * 2) / 5)))) 2 (((f1 2) * 2) / 5)) 2 ((((f1 2) * 2) / 5) + ((f1 1) - (((f1 1) * 1) / 5)))) 1 (((f1 1) * 1) / 5)))))] := hD
  refine lv_iinc (v := 0) (lv' := [(2, .int 0), (3, .long (((f1 1) * 1) / 5)), (0, .ref o), (1, .int 5)]) hx hb dX4_sendNext_62 hl (k := 1) rfl (by decide) (by decide) rfl (fun ls hl => ?_)
  refine lv_goto (tgt := 19) hx hb dX4_sendNext_65 (by decide) ?_
  refine lv_iload_n hx hb dX4_sendNext_19 rfl (lv_at hl 0 rfl) ?_
  refine lv_if_lt (tgt := 68) hx hb dX4_sendNext_20 (by decide) (fun c9 => absurd c9 (by decide)) (fun _ => ?_)
  refine lv_aload_n hx hb dX4_sendNext_23 rfl (lv_at hl 2 rfl) ?_
  refine va_get (D := (dC, dI)) (ci := 4) (v := .ref o_met) (C := RX4) (T := TX4) (N := 3) hx hb hts hin4 hown hK hP 0 rfl rfl 0 (by decide) (hts (.fieldLink RX4 9 "PathProber$Odds" "met" "[J") (List.mem_of_getElem? (i := 1) (by decide +kernel))) (fun _ h9 => h9) rfl dX4_sendNext_24 ?_
  refine lv_iload_n hx hb dX4_sendNext_27 rfl (lv_at hl 0 rfl) ?_
  refine va_lald hx hb hK hP 1 2 rfl rfl (vp_in_nI (n := 0) (by decide) (by decide)) dX4_sendNext_28 ?_
  refine lv_topl (fun z35 e36 => ?_)
  obtain rfl : z35 = (f1 0 : Int64) := e36
  refine lv_iload_n hx hb dX4_sendNext_29 rfl (lv_at hl 0 rfl) ?_
  refine lv_i2l (v := 0) hx hb dX4_sendNext_30 (by decide) ?_
  refine lv_lmul hx hb dX4_sendNext_31 ?_
  refine lv_iload_n hx hb dX4_sendNext_32 rfl (lv_at hl 3 rfl) ?_
  refine lv_i2l (v := 5) hx hb dX4_sendNext_33 (by decide) ?_
  refine lv_ldiv hx hb dX4_sendNext_34 (by decide) ?_
  refine lv_lstore_n (lv' := [(3, .long (((f1 0) * 0) / 5)), (2, .int 0), (0, .ref o), (1, .int 5)]) hx hb dX4_sendNext_35 rfl hl (by decide) rfl (fun ls hl => ?_)
  refine lv_aload_n hx hb dX4_sendNext_36 rfl (lv_at hl 2 rfl) ?_
  refine va_get (D := (dC, dI)) (ci := 4) (v := .ref o_met) (C := RX4) (T := TX4) (N := 3) hx hb hts hin4 hown hK hP 0 rfl rfl 0 (by decide) (hts (.fieldLink RX4 9 "PathProber$Odds" "met" "[J") (List.mem_of_getElem? (i := 1) (by decide +kernel))) (fun _ h9 => h9) rfl dX4_sendNext_37 ?_
  refine lv_iload_n hx hb dX4_sendNext_40 rfl (lv_at hl 1 rfl) ?_
  refine lv_iconst (v := 1) hx hb dX4_sendNext_41 (by decide) ?_
  refine lv_iadd hx hb dX4_sendNext_42 ?_
  refine lv_topi (fun z37 e38 => ?_)
  obtain rfl : z37 = (1 : Int32) := e38.trans (by decide)
  refine lv_dup2_11 hx hb dX4_sendNext_43 rfl rfl ?_
  refine va_lald hx hb hK hP 1 2 rfl rfl (vp_in_nI (n := 1) (by decide) (by decide)) dX4_sendNext_44 ?_
  refine lv_topl (fun z39 e40 => ?_)
  obtain rfl : z39 = (((f1 1) * 1) / 5 : Int64) := e40
  refine lv_aload_n hx hb dX4_sendNext_45 rfl (lv_at hl 2 rfl) ?_
  refine va_get (D := (dC, dI)) (ci := 4) (v := .ref o_met) (C := RX4) (T := TX4) (N := 3) hx hb hts hin4 hown hK hP 0 rfl rfl 0 (by decide) (hts (.fieldLink RX4 9 "PathProber$Odds" "met" "[J") (List.mem_of_getElem? (i := 1) (by decide +kernel))) (fun _ h9 => h9) rfl dX4_sendNext_46 ?_
  refine lv_iload_n hx hb dX4_sendNext_49 rfl (lv_at hl 1 rfl) ?_
  refine va_lald hx hb hK hP 1 2 rfl rfl (vp_in_nI (n := 0) (by decide) (by decide)) dX4_sendNext_50 ?_
  refine lv_topl (fun z41 e42 => ?_)
  obtain rfl : z41 = (f1 0 : Int64) := e42
  refine lv_lload_n hx hb dX4_sendNext_51 rfl (lv_at hl 0 rfl) ?_
  refine lv_lsub hx hb dX4_sendNext_52 ?_
  refine lv_ladd hx hb dX4_sendNext_53 ?_
  refine va_last hx hb hK hP hD hS 1 2 rfl rfl (vp_in_nI (n := 1) (by decide) (by decide)) dX4_sendNext_54 (fun H locs hP hD hS => ?_)
  have hP : va_P (dC, dI) vwCl [(o, .inr (4, oX4 o_met o_enough x_o)), (o_met, .inl (kJ, 23, .inr (.inl (vp_updL (vp_updL (vp_updL (vp_updL (vp_updL (vp_updL (vp_updL (vp_updL (vp_updL f1 5 ((f1 5) + ((f1 4) - (((f1 4) * 4) / 5)))) 4 (((f1 4) * 4) / 5)) 4 ((((f1 4) * 4) / 5) + ((f1 3) - (((f1 3) * 3) / 5)))) 3 (((f1 3) * 3) / 5)) 3 ((((f1 3) * 3) / 5) + ((f1 2) - (((f1 2) * 2) / 5)))) 2 (((f1 2) * 2) / 5)) 2 ((((f1 2) * 2) / 5) + ((f1 1) - (((f1 1) * 1) / 5)))) 1 (((f1 1) * 1) / 5)) 1 ((((f1 1) * 1) / 5) + ((f1 0) - (((f1 0) * 0) / 5)))))))] H := hP
  have hD : va_D A [(o, .inr (4, oX4 o_met o_enough x_o)), (o_met, .inl (kJ, 23, .inr (.inl (vp_updL (vp_updL (vp_updL (vp_updL (vp_updL (vp_updL (vp_updL (vp_updL (vp_updL f1 5 ((f1 5) + ((f1 4) - (((f1 4) * 4) / 5)))) 4 (((f1 4) * 4) / 5)) 4 ((((f1 4) * 4) / 5) + ((f1 3) - (((f1 3) * 3) / 5)))) 3 (((f1 3) * 3) / 5)) 3 ((((f1 3) * 3) / 5) + ((f1 2) - (((f1 2) * 2) / 5)))) 2 (((f1 2) * 2) / 5)) 2 ((((f1 2) * 2) / 5) + ((f1 1) - (((f1 1) * 1) / 5)))) 1 (((f1 1) * 1) / 5)) 1 ((((f1 1) * 1) / 5) + ((f1 0) - (((f1 0) * 0) / 5)))))))] := hD
  refine lv_aload_n hx hb dX4_sendNext_55 rfl (lv_at hl 2 rfl) ?_
  refine va_get (D := (dC, dI)) (ci := 4) (v := .ref o_met) (C := RX4) (T := TX4) (N := 3) hx hb hts hin4 hown hK hP 0 rfl rfl 0 (by decide) (hts (.fieldLink RX4 9 "PathProber$Odds" "met" "[J") (List.mem_of_getElem? (i := 1) (by decide +kernel))) (fun _ h9 => h9) rfl dX4_sendNext_56 ?_
  refine lv_iload_n hx hb dX4_sendNext_59 rfl (lv_at hl 1 rfl) ?_
  refine lv_lload_n hx hb dX4_sendNext_60 rfl (lv_at hl 0 rfl) ?_
  refine va_last hx hb hK hP hD hS 1 2 rfl rfl (vp_in_nI (n := 0) (by decide) (by decide)) dX4_sendNext_61 (fun H locs hP hD hS => ?_)
  have hP : va_P (dC, dI) vwCl [(o, .inr (4, oX4 o_met o_enough x_o)), (o_met, .inl (kJ, 23, .inr (.inl (vp_updL (vp_updL (vp_updL (vp_updL (vp_updL (vp_updL (vp_updL (vp_updL (vp_updL (vp_updL f1 5 ((f1 5) + ((f1 4) - (((f1 4) * 4) / 5)))) 4 (((f1 4) * 4) / 5)) 4 ((((f1 4) * 4) / 5) + ((f1 3) - (((f1 3) * 3) / 5)))) 3 (((f1 3) * 3) / 5)) 3 ((((f1 3) * 3) / 5) + ((f1 2) - (((f1 2) * 2) / 5)))) 2 (((f1 2) * 2) / 5)) 2 ((((f1 2) * 2) / 5) + ((f1 1) - (((f1 1) * 1) / 5)))) 1 (((f1 1) * 1) / 5)) 1 ((((f1 1) * 1) / 5) + ((f1 0) - (((f1 0) * 0) / 5)))) 0 (((f1 0) * 0) / 5)))))] H := hP
  have hD : va_D A [(o, .inr (4, oX4 o_met o_enough x_o)), (o_met, .inl (kJ, 23, .inr (.inl (vp_updL (vp_updL (vp_updL (vp_updL (vp_updL (vp_updL (vp_updL (vp_updL (vp_updL (vp_updL f1 5 ((f1 5) + ((f1 4) - (((f1 4) * 4) / 5)))) 4 (((f1 4) * 4) / 5)) 4 ((((f1 4) * 4) / 5) + ((f1 3) - (((f1 3) * 3) / 5)))) 3 (((f1 3) * 3) / 5)) 3 ((((f1 3) * 3) / 5) + ((f1 2) - (((f1 2) * 2) / 5)))) 2 (((f1 2) * 2) / 5)) 2 ((((f1 2) * 2) / 5) + ((f1 1) - (((f1 1) * 1) / 5)))) 1 (((f1 1) * 1) / 5)) 1 ((((f1 1) * 1) / 5) + ((f1 0) - (((f1 0) * 0) / 5)))) 0 (((f1 0) * 0) / 5)))))] := hD
  refine lv_iinc (v := (-1)) (lv' := [(2, .int (-1)), (3, .long (((f1 0) * 0) / 5)), (0, .ref o), (1, .int 5)]) hx hb dX4_sendNext_62 hl (k := 1) rfl (by decide) (by decide) rfl (fun ls hl => ?_)
  refine lv_goto (tgt := 19) hx hb dX4_sendNext_65 (by decide) ?_
  refine lv_iload_n hx hb dX4_sendNext_19 rfl (lv_at hl 0 rfl) ?_
  refine lv_if_lt (tgt := 68) hx hb dX4_sendNext_20 (by decide) (fun _ => ?_) (fun c9 => absurd (by decide) c9)
  have hP9 := hP.sub (ws' := [(o, .inr (4, oX4 o_met o_enough x_o)), (o_met, .inl (kJ, 23, .inr (.inl (vp_updL (vp_updL (vp_updL (vp_updL (vp_updL (vp_updL (vp_updL (vp_updL (vp_updL (vp_updL f1 5 ((f1 5) + ((f1 4) - (((f1 4) * 4) / 5)))) 4 (((f1 4) * 4) / 5)) 4 ((((f1 4) * 4) / 5) + ((f1 3) - (((f1 3) * 3) / 5)))) 3 (((f1 3) * 3) / 5)) 3 ((((f1 3) * 3) / 5) + ((f1 2) - (((f1 2) * 2) / 5)))) 2 (((f1 2) * 2) / 5)) 2 ((((f1 2) * 2) / 5) + ((f1 1) - (((f1 1) * 1) / 5)))) 1 (((f1 1) * 1) / 5)) 1 ((((f1 1) * 1) / 5) + ((f1 0) - (((f1 0) * 0) / 5)))) 0 (((f1 0) * 0) / 5)))))]) [0, 1] rfl
  have hD9 := hD.sub (ws' := [(o, .inr (4, oX4 o_met o_enough x_o)), (o_met, .inl (kJ, 23, .inr (.inl (vp_updL (vp_updL (vp_updL (vp_updL (vp_updL (vp_updL (vp_updL (vp_updL (vp_updL (vp_updL f1 5 ((f1 5) + ((f1 4) - (((f1 4) * 4) / 5)))) 4 (((f1 4) * 4) / 5)) 4 ((((f1 4) * 4) / 5) + ((f1 3) - (((f1 3) * 3) / 5)))) 3 (((f1 3) * 3) / 5)) 3 ((((f1 3) * 3) / 5) + ((f1 2) - (((f1 2) * 2) / 5)))) 2 (((f1 2) * 2) / 5)) 2 ((((f1 2) * 2) / 5) + ((f1 1) - (((f1 1) * 1) / 5)))) 1 (((f1 1) * 1) / 5)) 1 ((((f1 1) * 1) / 5) + ((f1 0) - (((f1 0) * 0) / 5)))) 0 (((f1 0) * 0) / 5)))))]) [0, 1] (by decide) rfl
  exact W.vret hx hb hr (fun t ht hW => ⟨⟨(), rfl, trivial, vp_updL (vp_updL (vp_updL (vp_updL (vp_updL (vp_updL (vp_updL (vp_updL (vp_updL (vp_updL f1 5 ((f1 5) + ((f1 4) - (((f1 4) * 4) / 5)))) 4 (((f1 4) * 4) / 5)) 4 ((((f1 4) * 4) / 5) + ((f1 3) - (((f1 3) * 3) / 5)))) 3 (((f1 3) * 3) / 5)) 3 ((((f1 3) * 3) / 5) + ((f1 2) - (((f1 2) * 2) / 5)))) 2 (((f1 2) * 2) / 5)) 2 ((((f1 2) * 2) / 5) + ((f1 1) - (((f1 1) * 1) / 5)))) 1 (((f1 1) * 1) / 5)) 1 ((((f1 1) * 1) / 5) + ((f1 0) - (((f1 0) * 0) / 5)))) 0 (((f1 0) * 0) / 5), rfl, rfl, rfl, rfl, rfl, rfl, by rw [ht]; exact hP9, hD9⟩, hS.F ht⟩) hS.2.2 dX4_sendNext_68
def rm_e4_missed_1 : Room := { frames := 1, cells := 0, slots := 0, locals := 24 }
set_option maxHeartbeats 4000000 in
set_option maxRecDepth 100000 in
theorem e4_missed_1 (l : Launch) (dC : Nat → ClassId) (dI : Nat → Nat → Nat) (kB kI kJ kZ kC kS : ClassId) (sz : Nat) (o : Nat) (o_met : Nat) (o_enough : Nat) (x_o : Nat → Int32) (k : Nat) (f1 : Nat → Int64) (hk : k ≤ 60) : Met l yX4_missed wsX4_missed rm_e4_missed_1 (va_Pc [.ref o, .int (nI k), .int 1] (fun U => U.heap.size = sz ∧ va_P (dC, dI) vwCl [(o, .inr (4, oX4 o_met o_enough x_o)), (o_met, .inl (kJ, 23, .inr (.inl f1)))] U.heap ∧ kE dC dI kB kI kJ kZ kC kS U ∧ va_D (fun _ => True) [(o, .inr (4, oX4 o_met o_enough x_o)), (o_met, .inl (kJ, 23, .inr (.inl f1)))])) (va_Ql (fun (r : Int64) (_ : Unit) => r = 1000000000000 - kv1 k 1) (fun _ t => ∃ (g1 : Nat → Int64), va_P (dC, dI) vwCl [(o, .inr (4, oX4 o_met o_enough x_o)), (o_met, .inl (kJ, 23, .inr (.inl g1)))] t.heap ∧ va_D (va_A [(o, .inr (4, oX4 o_met o_enough x_o)), (o_met, .inl (kJ, 23, .inr (.inl f1)))] sz) [(o, .inr (4, oX4 o_met o_enough x_o)), (o_met, .inl (kJ, 23, .inr (.inl g1)))]) (va_A [(o, .inr (4, oX4 o_met o_enough x_o)), (o_met, .inl (kJ, 23, .inr (.inl f1)))] sz)) 0 0 (va_A [(o, .inr (4, oX4 o_met o_enough x_o)), (o_met, .inl (kJ, 23, .inr (.inl f1)))] sz) := by
  refine Met.ofW (cc := cX4_missed) (maxL := 4) (ret := (some .long)) (by decide) rfl ?_
  intro p e s m args0 below meth c s₁ B hml hv
  obtain ⟨hargs, hsz, hP, hE, hD0⟩ := hv
  have hx := B.exec
  have hb := B.bytes
  have hr := B.returns
  have hts := atoms_spec (ws := wsX4_missed) B.pre
  have hown : s.vm.findClass RX4 = some m.cls := findClass_of_methodNamed B.named
  have hlocks := B.notSynchronized
  have hK := hE.1
  have hin4 : ∀ w ∈ wsX40, w ∈ wsX4_missed := fun _ h9 => List.mem_cons_of_mem _ (List.mem_append_right _ h9)
  subst hsz
  have hD := hD0.self (sz := s.heap.size)
  generalize hAe : va_A [(o, .inr (4, oX4 o_met o_enough x_o)), (o_met, .inl (kJ, 23, .inr (.inl f1)))] s.heap.size = A at hD ⊢
  have hA : ∀ q : Nat, s.heap.size ≤ q → A q := fun q h => by rw [← hAe]; exact Or.inr h
  have hS : va_S A s.heap s.heap [] := va_S.rf
  have hP : va_P (dC, dI) vwCl [(o, .inr (4, oX4 o_met o_enough x_o)), (o_met, .inl (kJ, 23, .inr (.inl f1)))] s.heap := hP
  have hl := lv_entry ([.ref o, .int (nI k), .int 1]) (n := 4) (Nat.le_of_ble_eq_true rfl)
  have hla : entryFrame m args0 4 = entryFrame m ([.ref o, .int (nI k), .int 1] : List Value).toArray 4 := by rw [hargs]
  rw [hla, lg_entry_eq]
  generalize (lg_sl ([.ref o, .int (nI k), .int 1]) ++ List.replicate (4 - (lg_sl ([.ref o, .int (nI k), .int 1])).length) Slot.unset).toArray = ls at hl ⊢
  have hl : lv_has ls 4 [(0, .ref o), (1, .int (nI k)), (2, .int 1)] := hl
  refine lv_iload_n hx hb dX4_missed_0 rfl (lv_at hl 2 rfl) ?_
  refine lv_iconst (v := 1) hx hb dX4_missed_1 (by decide) ?_
  refine lv_icmp_lt (tgt := 14) hx hb dX4_missed_2 (by decide) (fun c9 => absurd c9 (by decide)) (fun _ => ?_)
  refine lv_iload_n hx hb dX4_missed_5 rfl (lv_at hl 2 rfl) ?_
  refine lv_aload_n hx hb dX4_missed_6 rfl (lv_at hl 0 rfl) ?_
  refine va_get (D := (dC, dI)) (ci := 4) (v := .ref o_met) (C := RX4) (T := TX4) (N := 3) hx hb hts hin4 hown hK hP 0 rfl rfl 0 (by decide) (hts (.fieldLink RX4 9 "PathProber$Odds" "met" "[J") (List.mem_of_getElem? (i := 1) (by decide +kernel))) (fun _ h9 => h9) rfl dX4_missed_7 ?_
  refine va_alen (v := 23) hx hb hK hP 1 2 rfl rfl rfl dX4_missed_10 ?_
  refine lv_icmp_lt (tgt := 18) hx hb dX4_missed_11 (by decide) (fun _ => ?_) (fun c9 => absurd (by decide) c9)
  refine lv_aload_n hx hb dX4_missed_18 rfl (lv_at hl 0 rfl) ?_
  refine lv_iload_n hx hb dX4_missed_19 rfl (lv_at hl 2 rfl) ?_
  have hPc := hP.sub (ws' := [(o, .inr (4, oX4 o_met o_enough x_o)), (o_met, .inl (kJ, 23, .inr (.inl f1)))]) [0, 1] rfl
  have hDc := hD.sub (ws' := [(o, .inr (4, oX4 o_met o_enough x_o)), (o_met, .inl (kJ, 23, .inr (.inl f1)))]) [0, 1] (by decide) rfl
  have hFc := va_free (wc := [(o, .inr (4, oX4 o_met o_enough x_o)), (o_met, .inl (kJ, 23, .inr (.inl f1)))]) hD hS hA [0, 1] rfl
  refine va_callv (va_runV (As := [.int 1]) (rest := []) ⟨hx, hb, hml, hown, hts⟩ (e4_begin_1 l dC dI kB kI kJ kZ kC kS s.heap.size o o_met o_enough x_o f1) (cwV 1 hts gX4_missed_X4_begin rfl rfl rfl (by decide +kernel) ⟨Nat.le_of_ble_eq_true rfl, Nat.le_of_ble_eq_true rfl⟩) ⟨fun a U g mk q => by obtain ⟨q0, q1, qP, qE, qD⟩ := q; exact ⟨q0, q1, qP, kE_call qE, qD⟩, va_recv hK hP (ci := 4) (q0 := 0) rfl rfl, fun U hU hW => ⟨rfl, by rw [hU], by rw [hU]; exact hPc, kE_warm hW hE, hDc.weaken (fun _ _ _ _ => trivial)⟩⟩ rfl rfl hl.1 rfl (lv_room (Nat.le_of_ble_eq_true rfl)) dX4_missed_20 ⟨Nat.le_of_ble_eq_true rfl, Nat.le_of_ble_eq_true rfl⟩) hS (fun q _ h => hFc q h) hFc (fun u t H1 locs ht hvm w2 hB hz1 hk1 hS => ?_)
  obtain ⟨g_3, f4, f5, hP1, hD1⟩ := hB
  rw [ht] at hP1
  try dsimp only at w2
  obtain ⟨hP, hD⟩ := va_join (wr := []) (w1 := [(o, .inr (4, [.ref o_met, .ref o_enough, .int (x_o 0)])), (o_met, .inl (kJ, 23, .inr (.inl g_3)))]) hP hD [0, 1] [] rfl rfl (by decide) (by decide) hk1 hFc hP1 hD1
  generalize H1 = H at hP hS ⊢
  have hP : va_P (dC, dI) vwCl [(o, .inr (4, [.ref o_met, .ref o_enough, .int (x_o 0)])), (o_met, .inl (kJ, 23, .inr (.inl g_3)))] H := hP
  have hD : va_D A [(o, .inr (4, [.ref o_met, .ref o_enough, .int (x_o 0)])), (o_met, .inl (kJ, 23, .inr (.inl g_3)))] := hD
  refine W.widen (k := 0) (n := 0) (Nat.le_of_ble_eq_true rfl) (Nat.le_of_ble_eq_true rfl) ?_
  refine lv_iconst (v := 0) hx hb dX4_missed_23 (by decide) ?_
  refine lv_istore_n (lv' := [(3, .int 0), (0, .ref o), (1, .int (nI k)), (2, .int 1)]) hx hb dX4_missed_24 rfl hl (by decide) rfl (fun ls hl => ?_)
  have hloop25 : ∀ (n : Nat) (i : Nat) (fa : Nat → Int64) (H : Heap) (locs : List Loc) (ls : Array Slot), i + n = k → fa 0 = kv1 i 0 → fa 1 = kv1 i 1 → va_P (dC, dI) vwCl [(o, .inr (4, [.ref o_met, .ref o_enough, .int (x_o 0)])), (o_met, .inl (kJ, 23, .inr (.inl fa)))] H → va_D A [(o, .inr (4, [.ref o_met, .ref o_enough, .int (x_o 0)])), (o_met, .inl (kJ, 23, .inr (.inl fa)))] → va_S A s.heap H locs → lv_has ls 4 [(3, .int (nI i)), (0, .ref o), (1, .int (nI k)), (2, .int 1)] → W p l e (headSpec wsX4_missed rm_e4_missed_1).room s m args0 below meth c H locs 0 0 (MQ below (va_Ql (fun (r : Int64) (_ : Unit) => r = 1000000000000 - kv1 k 1) (fun _ t => ∃ (g1 : Nat → Int64), va_P (dC, dI) vwCl [(o, .inr (4, oX4 o_met o_enough x_o)), (o_met, .inl (kJ, 23, .inr (.inl g1)))] t.heap ∧ va_D A [(o, .inr (4, oX4 o_met o_enough x_o)), (o_met, .inl (kJ, 23, .inr (.inl g1)))]) A) args0 s 0 0 A) (F0 m 25 ls []) := by
    intro n
    induction n with
    | zero =>
      intro i fa H locs ls hi hf0 hf1 hP hD hS hl
      refine lv_iload_n hx hb dX4_missed_25 rfl (lv_at hl 0 rfl) ?_
      refine lv_iload_n hx hb dX4_missed_26 rfl (lv_at hl 2 rfl) ?_
      refine lv_icmp_ge (tgt := 54) hx hb dX4_missed_27 (by decide) (fun _ => ?_) (fun c9 => absurd (nI_le (by omega) (by omega)) c9)
      refine lv_ldc2 hx hb hown (hts (.constantLong RX4 23 (1000000000000)) (List.mem_of_getElem? (i := 2) (by decide +kernel))) dX4_missed_54 ?_
      refine lv_aload_n hx hb dX4_missed_57 rfl (lv_at hl 1 rfl) ?_
      refine va_get (D := (dC, dI)) (ci := 4) (v := .ref o_met) (C := RX4) (T := TX4) (N := 3) hx hb hts hin4 hown hK hP 0 rfl rfl 0 (by decide) (hts (.fieldLink RX4 9 "PathProber$Odds" "met" "[J") (List.mem_of_getElem? (i := 1) (by decide +kernel))) (fun _ h9 => h9) rfl dX4_missed_58 ?_
      refine lv_iload_n hx hb dX4_missed_61 rfl (lv_at hl 3 rfl) ?_
      refine va_lald hx hb hK hP 1 2 rfl rfl (vp_in_nI (n := 1) (by decide) (by decide)) dX4_missed_62 ?_
      refine lv_topl (fun z6 e7 => ?_)
      obtain rfl : z6 = (fa 1 : Int64) := e7
      refine lv_lsub hx hb dX4_missed_63 ?_
      have hP9 := hP.sub (ws' := [(o, .inr (4, [.ref o_met, .ref o_enough, .int (x_o 0)])), (o_met, .inl (kJ, 23, .inr (.inl fa)))]) [0, 1] rfl
      have hD9 := hD.sub (ws' := [(o, .inr (4, [.ref o_met, .ref o_enough, .int (x_o 0)])), (o_met, .inl (kJ, 23, .inr (.inl fa)))]) [0, 1] (by decide) rfl
      exact W.lret (v := 1000000000000 - (fa 1)) hx hb hr (fun t ht hW => ⟨⟨1000000000000 - (fa 1), (), rfl, by have h9 : i = k := (by omega); subst h9; rw [hf1], fa, by rw [ht]; exact hP9, hD9⟩, hS.F ht⟩) hS.2.2 dX4_missed_64
    | succ n ih =>
      intro i fa H locs ls hi hf0 hf1 hP hD hS hl
      refine lv_iload_n hx hb dX4_missed_25 rfl (lv_at hl 0 rfl) ?_
      refine lv_iload_n hx hb dX4_missed_26 rfl (lv_at hl 2 rfl) ?_
      refine lv_icmp_ge (tgt := 54) hx hb dX4_missed_27 (by decide) (fun c9 => absurd c9 (nI_ge (by omega) (by omega))) (fun _ => ?_)
      refine lv_aload_n hx hb dX4_missed_30 rfl (lv_at hl 1 rfl) ?_
      refine va_get (D := (dC, dI)) (ci := 4) (v := .ref o_met) (C := RX4) (T := TX4) (N := 3) hx hb hts hin4 hown hK hP 0 rfl rfl 0 (by decide) (hts (.fieldLink RX4 9 "PathProber$Odds" "met" "[J") (List.mem_of_getElem? (i := 1) (by decide +kernel))) (fun _ h9 => h9) rfl dX4_missed_31 ?_
      refine lv_iload_n hx hb dX4_missed_34 rfl (lv_at hl 3 rfl) ?_
      refine va_lald hx hb hK hP 1 2 rfl rfl (vp_in_nI (n := 1) (by decide) (by decide)) dX4_missed_35 ?_
      refine lv_topl (fun z8 e9 => ?_)
      obtain rfl : z8 = (fa 1 : Int64) := e9
      refine lv_ldc2 hx hb hown (hts (.constantLong RX4 23 (1000000000000)) (List.mem_of_getElem? (i := 2) (by decide +kernel))) dX4_missed_36 ?_
      refine W.lcmp hx hb dX4_missed_39 ?_
      refine lv_if_ge (tgt := 54) hx hb dX4_missed_40 (by decide) (fun c10 => ?_) (fun c10 => ?_)
      · refine lv_ldc2 hx hb hown (hts (.constantLong RX4 23 (1000000000000)) (List.mem_of_getElem? (i := 2) (by decide +kernel))) dX4_missed_54 ?_
        refine lv_aload_n hx hb dX4_missed_57 rfl (lv_at hl 1 rfl) ?_
        refine va_get (D := (dC, dI)) (ci := 4) (v := .ref o_met) (C := RX4) (T := TX4) (N := 3) hx hb hts hin4 hown hK hP 0 rfl rfl 0 (by decide) (hts (.fieldLink RX4 9 "PathProber$Odds" "met" "[J") (List.mem_of_getElem? (i := 1) (by decide +kernel))) (fun _ h9 => h9) rfl dX4_missed_58 ?_
        refine lv_iload_n hx hb dX4_missed_61 rfl (lv_at hl 3 rfl) ?_
        refine va_lald hx hb hK hP 1 2 rfl rfl (vp_in_nI (n := 1) (by decide) (by decide)) dX4_missed_62 ?_
        refine lv_topl (fun z11 e12 => ?_)
        obtain rfl : z11 = (fa 1 : Int64) := e12
        refine lv_lsub hx hb dX4_missed_63 ?_
        have hP9 := hP.sub (ws' := [(o, .inr (4, [.ref o_met, .ref o_enough, .int (x_o 0)])), (o_met, .inl (kJ, 23, .inr (.inl fa)))]) [0, 1] rfl
        have hD9 := hD.sub (ws' := [(o, .inr (4, [.ref o_met, .ref o_enough, .int (x_o 0)])), (o_met, .inl (kJ, 23, .inr (.inl fa)))]) [0, 1] (by decide) rfl
        exact W.lret (v := 1000000000000 - (fa 1)) hx hb hr (fun t ht hW => ⟨⟨1000000000000 - (fa 1), (), rfl, by have h9 := kn_cmp c10; rw [hf1] at h9; have h8 := kvq1 h9 (k - i) (by omega); rw [show i + (k - i) = k by omega] at h8; rw [hf1, h8], fa, by rw [ht]; exact hP9, hD9⟩, hS.F ht⟩) hS.2.2 dX4_missed_64
      · refine lv_aload_n hx hb dX4_missed_43 rfl (lv_at hl 1 rfl) ?_
        refine lv_iload_n hx hb dX4_missed_44 rfl (lv_at hl 3 rfl) ?_
        have hPc := hP.sub (ws' := [(o, .inr (4, [.ref o_met, .ref o_enough, .int (x_o 0)])), (o_met, .inl (kJ, 23, .inr (.inl fa)))]) [0, 1] rfl
        have hDc := hD.sub (ws' := [(o, .inr (4, [.ref o_met, .ref o_enough, .int (x_o 0)])), (o_met, .inl (kJ, 23, .inr (.inl fa)))]) [0, 1] (by decide) rfl
        have hFc := va_free (wc := [(o, .inr (4, [.ref o_met, .ref o_enough, .int (x_o 0)])), (o_met, .inl (kJ, 23, .inr (.inl fa)))]) hD hS hA [0, 1] rfl
        refine va_callv (va_runV (As := [.int 1]) (rest := []) ⟨hx, hb, hml, hown, hts⟩ (e4_sendNext_1 l dC dI kB kI kJ kZ kC kS H.size o o_met o_enough x_o fa) (cwV 1 hts gX4_missed_X4_sendNext rfl rfl rfl (by decide +kernel) ⟨Nat.le_of_ble_eq_true rfl, Nat.le_of_ble_eq_true rfl⟩) ⟨fun a U g mk q => by obtain ⟨q0, q1, qP, qE, qD⟩ := q; exact ⟨q0, q1, qP, kE_call qE, qD⟩, va_recv hK hP (ci := 4) (q0 := 0) rfl rfl, fun U hU hW => ⟨rfl, by rw [hU], by rw [hU]; exact hPc, kE_warm hW hE, hDc.weaken (fun _ _ _ _ => trivial)⟩⟩ rfl rfl hl.1 rfl (lv_room (Nat.le_of_ble_eq_true rfl)) dX4_missed_45 ⟨Nat.le_of_ble_eq_true rfl, Nat.le_of_ble_eq_true rfl⟩) hS (fun q _ h => hFc q h) hFc (fun u t H1 locs ht hvm w14 hB hz1 hk1 hS => ?_)
        obtain ⟨g_15, f16, f17, hP1, hD1⟩ := hB
        rw [ht] at hP1
        try dsimp only at w14
        obtain ⟨hP, hD⟩ := va_join (wr := []) (w1 := [(o, .inr (4, [.ref o_met, .ref o_enough, .int (x_o 0)])), (o_met, .inl (kJ, 23, .inr (.inl g_15)))]) hP hD [0, 1] [] rfl rfl (by decide) (by decide) hk1 hFc hP1 hD1
        generalize H1 = H at hP hS ⊢
        have hP : va_P (dC, dI) vwCl [(o, .inr (4, [.ref o_met, .ref o_enough, .int (x_o 0)])), (o_met, .inl (kJ, 23, .inr (.inl g_15)))] H := hP
        have hD : va_D A [(o, .inr (4, [.ref o_met, .ref o_enough, .int (x_o 0)])), (o_met, .inl (kJ, 23, .inr (.inl g_15)))] := hD
        refine W.widen (k := 0) (n := 0) (Nat.le_of_ble_eq_true rfl) (Nat.le_of_ble_eq_true rfl) ?_
        refine lv_iinc (v := nI (i + 1)) (lv' := [(3, .int (nI (i + 1))), (0, .ref o), (1, .int (nI k)), (2, .int 1)]) hx hb dX4_missed_48 hl (k := 0) rfl (nI_1 i) (by decide) rfl (fun ls hl => ?_)
        refine lv_goto (tgt := 25) hx hb dX4_missed_51 (by decide) ?_
        exact ih (i + 1) g_15 _ _ _ (by omega) (by rw [f16, hf0]; exact kvs1_0 i (by omega)) (by rw [f17, hf0, hf1]; exact kvs1_1 i (by omega)) (hP.sub [0, 1] rfl) (hD.sub [0, 1] (by decide) rfl) hS (lv_sub hl [0, 1, 2, 3] rfl)
  exact hloop25 k 0 g_3 _ _ _ (Nat.zero_add _) (f4) (f5) hP hD hS (lv_sub hl [0, 1, 2, 3] rfl)
def rm_e4_missed_2 : Room := { frames := 1, cells := 0, slots := 0, locals := 24 }
set_option maxHeartbeats 4000000 in
set_option maxRecDepth 100000 in
theorem e4_missed_2 (l : Launch) (dC : Nat → ClassId) (dI : Nat → Nat → Nat) (kB kI kJ kZ kC kS : ClassId) (sz : Nat) (o : Nat) (o_met : Nat) (o_enough : Nat) (x_o : Nat → Int32) (k : Nat) (f1 : Nat → Int64) (hk : k ≤ 60) : Met l yX4_missed wsX4_missed rm_e4_missed_2 (va_Pc [.ref o, .int (nI k), .int 2] (fun U => U.heap.size = sz ∧ va_P (dC, dI) vwCl [(o, .inr (4, oX4 o_met o_enough x_o)), (o_met, .inl (kJ, 23, .inr (.inl f1)))] U.heap ∧ kE dC dI kB kI kJ kZ kC kS U ∧ va_D (fun _ => True) [(o, .inr (4, oX4 o_met o_enough x_o)), (o_met, .inl (kJ, 23, .inr (.inl f1)))])) (va_Ql (fun (r : Int64) (_ : Unit) => r = 1000000000000 - kv2 k 2) (fun _ t => ∃ (g1 : Nat → Int64), va_P (dC, dI) vwCl [(o, .inr (4, oX4 o_met o_enough x_o)), (o_met, .inl (kJ, 23, .inr (.inl g1)))] t.heap ∧ va_D (va_A [(o, .inr (4, oX4 o_met o_enough x_o)), (o_met, .inl (kJ, 23, .inr (.inl f1)))] sz) [(o, .inr (4, oX4 o_met o_enough x_o)), (o_met, .inl (kJ, 23, .inr (.inl g1)))]) (va_A [(o, .inr (4, oX4 o_met o_enough x_o)), (o_met, .inl (kJ, 23, .inr (.inl f1)))] sz)) 0 0 (va_A [(o, .inr (4, oX4 o_met o_enough x_o)), (o_met, .inl (kJ, 23, .inr (.inl f1)))] sz) := by
  refine Met.ofW (cc := cX4_missed) (maxL := 4) (ret := (some .long)) (by decide) rfl ?_
  intro p e s m args0 below meth c s₁ B hml hv
  obtain ⟨hargs, hsz, hP, hE, hD0⟩ := hv
  have hx := B.exec
  have hb := B.bytes
  have hr := B.returns
  have hts := atoms_spec (ws := wsX4_missed) B.pre
  have hown : s.vm.findClass RX4 = some m.cls := findClass_of_methodNamed B.named
  have hlocks := B.notSynchronized
  have hK := hE.1
  have hin4 : ∀ w ∈ wsX40, w ∈ wsX4_missed := fun _ h9 => List.mem_cons_of_mem _ (List.mem_append_right _ h9)
  subst hsz
  have hD := hD0.self (sz := s.heap.size)
  generalize hAe : va_A [(o, .inr (4, oX4 o_met o_enough x_o)), (o_met, .inl (kJ, 23, .inr (.inl f1)))] s.heap.size = A at hD ⊢
  have hA : ∀ q : Nat, s.heap.size ≤ q → A q := fun q h => by rw [← hAe]; exact Or.inr h
  have hS : va_S A s.heap s.heap [] := va_S.rf
  have hP : va_P (dC, dI) vwCl [(o, .inr (4, oX4 o_met o_enough x_o)), (o_met, .inl (kJ, 23, .inr (.inl f1)))] s.heap := hP
  have hl := lv_entry ([.ref o, .int (nI k), .int 2]) (n := 4) (Nat.le_of_ble_eq_true rfl)
  have hla : entryFrame m args0 4 = entryFrame m ([.ref o, .int (nI k), .int 2] : List Value).toArray 4 := by rw [hargs]
  rw [hla, lg_entry_eq]
  generalize (lg_sl ([.ref o, .int (nI k), .int 2]) ++ List.replicate (4 - (lg_sl ([.ref o, .int (nI k), .int 2])).length) Slot.unset).toArray = ls at hl ⊢
  have hl : lv_has ls 4 [(0, .ref o), (1, .int (nI k)), (2, .int 2)] := hl
  refine lv_iload_n hx hb dX4_missed_0 rfl (lv_at hl 2 rfl) ?_
  refine lv_iconst (v := 1) hx hb dX4_missed_1 (by decide) ?_
  refine lv_icmp_lt (tgt := 14) hx hb dX4_missed_2 (by decide) (fun c9 => absurd c9 (by decide)) (fun _ => ?_)
  refine lv_iload_n hx hb dX4_missed_5 rfl (lv_at hl 2 rfl) ?_
  refine lv_aload_n hx hb dX4_missed_6 rfl (lv_at hl 0 rfl) ?_
  refine va_get (D := (dC, dI)) (ci := 4) (v := .ref o_met) (C := RX4) (T := TX4) (N := 3) hx hb hts hin4 hown hK hP 0 rfl rfl 0 (by decide) (hts (.fieldLink RX4 9 "PathProber$Odds" "met" "[J") (List.mem_of_getElem? (i := 1) (by decide +kernel))) (fun _ h9 => h9) rfl dX4_missed_7 ?_
  refine va_alen (v := 23) hx hb hK hP 1 2 rfl rfl rfl dX4_missed_10 ?_
  refine lv_icmp_lt (tgt := 18) hx hb dX4_missed_11 (by decide) (fun _ => ?_) (fun c9 => absurd (by decide) c9)
  refine lv_aload_n hx hb dX4_missed_18 rfl (lv_at hl 0 rfl) ?_
  refine lv_iload_n hx hb dX4_missed_19 rfl (lv_at hl 2 rfl) ?_
  have hPc := hP.sub (ws' := [(o, .inr (4, oX4 o_met o_enough x_o)), (o_met, .inl (kJ, 23, .inr (.inl f1)))]) [0, 1] rfl
  have hDc := hD.sub (ws' := [(o, .inr (4, oX4 o_met o_enough x_o)), (o_met, .inl (kJ, 23, .inr (.inl f1)))]) [0, 1] (by decide) rfl
  have hFc := va_free (wc := [(o, .inr (4, oX4 o_met o_enough x_o)), (o_met, .inl (kJ, 23, .inr (.inl f1)))]) hD hS hA [0, 1] rfl
  refine va_callv (va_runV (As := [.int 2]) (rest := []) ⟨hx, hb, hml, hown, hts⟩ (e4_begin_2 l dC dI kB kI kJ kZ kC kS s.heap.size o o_met o_enough x_o f1) (cwV 1 hts gX4_missed_X4_begin rfl rfl rfl (by decide +kernel) ⟨Nat.le_of_ble_eq_true rfl, Nat.le_of_ble_eq_true rfl⟩) ⟨fun a U g mk q => by obtain ⟨q0, q1, qP, qE, qD⟩ := q; exact ⟨q0, q1, qP, kE_call qE, qD⟩, va_recv hK hP (ci := 4) (q0 := 0) rfl rfl, fun U hU hW => ⟨rfl, by rw [hU], by rw [hU]; exact hPc, kE_warm hW hE, hDc.weaken (fun _ _ _ _ => trivial)⟩⟩ rfl rfl hl.1 rfl (lv_room (Nat.le_of_ble_eq_true rfl)) dX4_missed_20 ⟨Nat.le_of_ble_eq_true rfl, Nat.le_of_ble_eq_true rfl⟩) hS (fun q _ h => hFc q h) hFc (fun u t H1 locs ht hvm w2 hB hz1 hk1 hS => ?_)
  obtain ⟨g_3, f4, f5, f6, hP1, hD1⟩ := hB
  rw [ht] at hP1
  try dsimp only at w2
  obtain ⟨hP, hD⟩ := va_join (wr := []) (w1 := [(o, .inr (4, [.ref o_met, .ref o_enough, .int (x_o 0)])), (o_met, .inl (kJ, 23, .inr (.inl g_3)))]) hP hD [0, 1] [] rfl rfl (by decide) (by decide) hk1 hFc hP1 hD1
  generalize H1 = H at hP hS ⊢
  have hP : va_P (dC, dI) vwCl [(o, .inr (4, [.ref o_met, .ref o_enough, .int (x_o 0)])), (o_met, .inl (kJ, 23, .inr (.inl g_3)))] H := hP
  have hD : va_D A [(o, .inr (4, [.ref o_met, .ref o_enough, .int (x_o 0)])), (o_met, .inl (kJ, 23, .inr (.inl g_3)))] := hD
  refine W.widen (k := 0) (n := 0) (Nat.le_of_ble_eq_true rfl) (Nat.le_of_ble_eq_true rfl) ?_
  refine lv_iconst (v := 0) hx hb dX4_missed_23 (by decide) ?_
  refine lv_istore_n (lv' := [(3, .int 0), (0, .ref o), (1, .int (nI k)), (2, .int 2)]) hx hb dX4_missed_24 rfl hl (by decide) rfl (fun ls hl => ?_)
  have hloop25 : ∀ (n : Nat) (i : Nat) (fa : Nat → Int64) (H : Heap) (locs : List Loc) (ls : Array Slot), i + n = k → fa 0 = kv2 i 0 → fa 1 = kv2 i 1 → fa 2 = kv2 i 2 → va_P (dC, dI) vwCl [(o, .inr (4, [.ref o_met, .ref o_enough, .int (x_o 0)])), (o_met, .inl (kJ, 23, .inr (.inl fa)))] H → va_D A [(o, .inr (4, [.ref o_met, .ref o_enough, .int (x_o 0)])), (o_met, .inl (kJ, 23, .inr (.inl fa)))] → va_S A s.heap H locs → lv_has ls 4 [(3, .int (nI i)), (0, .ref o), (1, .int (nI k)), (2, .int 2)] → W p l e (headSpec wsX4_missed rm_e4_missed_2).room s m args0 below meth c H locs 0 0 (MQ below (va_Ql (fun (r : Int64) (_ : Unit) => r = 1000000000000 - kv2 k 2) (fun _ t => ∃ (g1 : Nat → Int64), va_P (dC, dI) vwCl [(o, .inr (4, oX4 o_met o_enough x_o)), (o_met, .inl (kJ, 23, .inr (.inl g1)))] t.heap ∧ va_D A [(o, .inr (4, oX4 o_met o_enough x_o)), (o_met, .inl (kJ, 23, .inr (.inl g1)))]) A) args0 s 0 0 A) (F0 m 25 ls []) := by
    intro n
    induction n with
    | zero =>
      intro i fa H locs ls hi hf0 hf1 hf2 hP hD hS hl
      refine lv_iload_n hx hb dX4_missed_25 rfl (lv_at hl 0 rfl) ?_
      refine lv_iload_n hx hb dX4_missed_26 rfl (lv_at hl 2 rfl) ?_
      refine lv_icmp_ge (tgt := 54) hx hb dX4_missed_27 (by decide) (fun _ => ?_) (fun c9 => absurd (nI_le (by omega) (by omega)) c9)
      refine lv_ldc2 hx hb hown (hts (.constantLong RX4 23 (1000000000000)) (List.mem_of_getElem? (i := 2) (by decide +kernel))) dX4_missed_54 ?_
      refine lv_aload_n hx hb dX4_missed_57 rfl (lv_at hl 1 rfl) ?_
      refine va_get (D := (dC, dI)) (ci := 4) (v := .ref o_met) (C := RX4) (T := TX4) (N := 3) hx hb hts hin4 hown hK hP 0 rfl rfl 0 (by decide) (hts (.fieldLink RX4 9 "PathProber$Odds" "met" "[J") (List.mem_of_getElem? (i := 1) (by decide +kernel))) (fun _ h9 => h9) rfl dX4_missed_58 ?_
      refine lv_iload_n hx hb dX4_missed_61 rfl (lv_at hl 3 rfl) ?_
      refine va_lald hx hb hK hP 1 2 rfl rfl (vp_in_nI (n := 2) (by decide) (by decide)) dX4_missed_62 ?_
      refine lv_topl (fun z7 e8 => ?_)
      obtain rfl : z7 = (fa 2 : Int64) := e8
      refine lv_lsub hx hb dX4_missed_63 ?_
      have hP9 := hP.sub (ws' := [(o, .inr (4, [.ref o_met, .ref o_enough, .int (x_o 0)])), (o_met, .inl (kJ, 23, .inr (.inl fa)))]) [0, 1] rfl
      have hD9 := hD.sub (ws' := [(o, .inr (4, [.ref o_met, .ref o_enough, .int (x_o 0)])), (o_met, .inl (kJ, 23, .inr (.inl fa)))]) [0, 1] (by decide) rfl
      exact W.lret (v := 1000000000000 - (fa 2)) hx hb hr (fun t ht hW => ⟨⟨1000000000000 - (fa 2), (), rfl, by have h9 : i = k := (by omega); subst h9; rw [hf2], fa, by rw [ht]; exact hP9, hD9⟩, hS.F ht⟩) hS.2.2 dX4_missed_64
    | succ n ih =>
      intro i fa H locs ls hi hf0 hf1 hf2 hP hD hS hl
      refine lv_iload_n hx hb dX4_missed_25 rfl (lv_at hl 0 rfl) ?_
      refine lv_iload_n hx hb dX4_missed_26 rfl (lv_at hl 2 rfl) ?_
      refine lv_icmp_ge (tgt := 54) hx hb dX4_missed_27 (by decide) (fun c9 => absurd c9 (nI_ge (by omega) (by omega))) (fun _ => ?_)
      refine lv_aload_n hx hb dX4_missed_30 rfl (lv_at hl 1 rfl) ?_
      refine va_get (D := (dC, dI)) (ci := 4) (v := .ref o_met) (C := RX4) (T := TX4) (N := 3) hx hb hts hin4 hown hK hP 0 rfl rfl 0 (by decide) (hts (.fieldLink RX4 9 "PathProber$Odds" "met" "[J") (List.mem_of_getElem? (i := 1) (by decide +kernel))) (fun _ h9 => h9) rfl dX4_missed_31 ?_
      refine lv_iload_n hx hb dX4_missed_34 rfl (lv_at hl 3 rfl) ?_
      refine va_lald hx hb hK hP 1 2 rfl rfl (vp_in_nI (n := 2) (by decide) (by decide)) dX4_missed_35 ?_
      refine lv_topl (fun z9 e10 => ?_)
      obtain rfl : z9 = (fa 2 : Int64) := e10
      refine lv_ldc2 hx hb hown (hts (.constantLong RX4 23 (1000000000000)) (List.mem_of_getElem? (i := 2) (by decide +kernel))) dX4_missed_36 ?_
      refine W.lcmp hx hb dX4_missed_39 ?_
      refine lv_if_ge (tgt := 54) hx hb dX4_missed_40 (by decide) (fun c11 => ?_) (fun c11 => ?_)
      · refine lv_ldc2 hx hb hown (hts (.constantLong RX4 23 (1000000000000)) (List.mem_of_getElem? (i := 2) (by decide +kernel))) dX4_missed_54 ?_
        refine lv_aload_n hx hb dX4_missed_57 rfl (lv_at hl 1 rfl) ?_
        refine va_get (D := (dC, dI)) (ci := 4) (v := .ref o_met) (C := RX4) (T := TX4) (N := 3) hx hb hts hin4 hown hK hP 0 rfl rfl 0 (by decide) (hts (.fieldLink RX4 9 "PathProber$Odds" "met" "[J") (List.mem_of_getElem? (i := 1) (by decide +kernel))) (fun _ h9 => h9) rfl dX4_missed_58 ?_
        refine lv_iload_n hx hb dX4_missed_61 rfl (lv_at hl 3 rfl) ?_
        refine va_lald hx hb hK hP 1 2 rfl rfl (vp_in_nI (n := 2) (by decide) (by decide)) dX4_missed_62 ?_
        refine lv_topl (fun z12 e13 => ?_)
        obtain rfl : z12 = (fa 2 : Int64) := e13
        refine lv_lsub hx hb dX4_missed_63 ?_
        have hP9 := hP.sub (ws' := [(o, .inr (4, [.ref o_met, .ref o_enough, .int (x_o 0)])), (o_met, .inl (kJ, 23, .inr (.inl fa)))]) [0, 1] rfl
        have hD9 := hD.sub (ws' := [(o, .inr (4, [.ref o_met, .ref o_enough, .int (x_o 0)])), (o_met, .inl (kJ, 23, .inr (.inl fa)))]) [0, 1] (by decide) rfl
        exact W.lret (v := 1000000000000 - (fa 2)) hx hb hr (fun t ht hW => ⟨⟨1000000000000 - (fa 2), (), rfl, by have h9 := kn_cmp c11; rw [hf2] at h9; have h8 := kvq2 h9 (k - i) (by omega); rw [show i + (k - i) = k by omega] at h8; rw [hf2, h8], fa, by rw [ht]; exact hP9, hD9⟩, hS.F ht⟩) hS.2.2 dX4_missed_64
      · refine lv_aload_n hx hb dX4_missed_43 rfl (lv_at hl 1 rfl) ?_
        refine lv_iload_n hx hb dX4_missed_44 rfl (lv_at hl 3 rfl) ?_
        have hPc := hP.sub (ws' := [(o, .inr (4, [.ref o_met, .ref o_enough, .int (x_o 0)])), (o_met, .inl (kJ, 23, .inr (.inl fa)))]) [0, 1] rfl
        have hDc := hD.sub (ws' := [(o, .inr (4, [.ref o_met, .ref o_enough, .int (x_o 0)])), (o_met, .inl (kJ, 23, .inr (.inl fa)))]) [0, 1] (by decide) rfl
        have hFc := va_free (wc := [(o, .inr (4, [.ref o_met, .ref o_enough, .int (x_o 0)])), (o_met, .inl (kJ, 23, .inr (.inl fa)))]) hD hS hA [0, 1] rfl
        refine va_callv (va_runV (As := [.int 2]) (rest := []) ⟨hx, hb, hml, hown, hts⟩ (e4_sendNext_2 l dC dI kB kI kJ kZ kC kS H.size o o_met o_enough x_o fa) (cwV 1 hts gX4_missed_X4_sendNext rfl rfl rfl (by decide +kernel) ⟨Nat.le_of_ble_eq_true rfl, Nat.le_of_ble_eq_true rfl⟩) ⟨fun a U g mk q => by obtain ⟨q0, q1, qP, qE, qD⟩ := q; exact ⟨q0, q1, qP, kE_call qE, qD⟩, va_recv hK hP (ci := 4) (q0 := 0) rfl rfl, fun U hU hW => ⟨rfl, by rw [hU], by rw [hU]; exact hPc, kE_warm hW hE, hDc.weaken (fun _ _ _ _ => trivial)⟩⟩ rfl rfl hl.1 rfl (lv_room (Nat.le_of_ble_eq_true rfl)) dX4_missed_45 ⟨Nat.le_of_ble_eq_true rfl, Nat.le_of_ble_eq_true rfl⟩) hS (fun q _ h => hFc q h) hFc (fun u t H1 locs ht hvm w15 hB hz1 hk1 hS => ?_)
        obtain ⟨g_16, f17, f18, f19, hP1, hD1⟩ := hB
        rw [ht] at hP1
        try dsimp only at w15
        obtain ⟨hP, hD⟩ := va_join (wr := []) (w1 := [(o, .inr (4, [.ref o_met, .ref o_enough, .int (x_o 0)])), (o_met, .inl (kJ, 23, .inr (.inl g_16)))]) hP hD [0, 1] [] rfl rfl (by decide) (by decide) hk1 hFc hP1 hD1
        generalize H1 = H at hP hS ⊢
        have hP : va_P (dC, dI) vwCl [(o, .inr (4, [.ref o_met, .ref o_enough, .int (x_o 0)])), (o_met, .inl (kJ, 23, .inr (.inl g_16)))] H := hP
        have hD : va_D A [(o, .inr (4, [.ref o_met, .ref o_enough, .int (x_o 0)])), (o_met, .inl (kJ, 23, .inr (.inl g_16)))] := hD
        refine W.widen (k := 0) (n := 0) (Nat.le_of_ble_eq_true rfl) (Nat.le_of_ble_eq_true rfl) ?_
        refine lv_iinc (v := nI (i + 1)) (lv' := [(3, .int (nI (i + 1))), (0, .ref o), (1, .int (nI k)), (2, .int 2)]) hx hb dX4_missed_48 hl (k := 0) rfl (nI_1 i) (by decide) rfl (fun ls hl => ?_)
        refine lv_goto (tgt := 25) hx hb dX4_missed_51 (by decide) ?_
        exact ih (i + 1) g_16 _ _ _ (by omega) (by rw [f17, hf0]; exact kvs2_0 i (by omega)) (by rw [f18, hf0, hf1]; exact kvs2_1 i (by omega)) (by rw [f19, hf1, hf2]; exact kvs2_2 i (by omega)) (hP.sub [0, 1] rfl) (hD.sub [0, 1] (by decide) rfl) hS (lv_sub hl [0, 1, 2, 3] rfl)
  exact hloop25 k 0 g_3 _ _ _ (Nat.zero_add _) (f4) (f5) (f6) hP hD hS (lv_sub hl [0, 1, 2, 3] rfl)
def rm_e4_missed_3 : Room := { frames := 1, cells := 0, slots := 0, locals := 24 }
set_option maxHeartbeats 4000000 in
set_option maxRecDepth 100000 in
theorem e4_missed_3 (l : Launch) (dC : Nat → ClassId) (dI : Nat → Nat → Nat) (kB kI kJ kZ kC kS : ClassId) (sz : Nat) (o : Nat) (o_met : Nat) (o_enough : Nat) (x_o : Nat → Int32) (k : Nat) (f1 : Nat → Int64) (hk : k ≤ 60) : Met l yX4_missed wsX4_missed rm_e4_missed_3 (va_Pc [.ref o, .int (nI k), .int 3] (fun U => U.heap.size = sz ∧ va_P (dC, dI) vwCl [(o, .inr (4, oX4 o_met o_enough x_o)), (o_met, .inl (kJ, 23, .inr (.inl f1)))] U.heap ∧ kE dC dI kB kI kJ kZ kC kS U ∧ va_D (fun _ => True) [(o, .inr (4, oX4 o_met o_enough x_o)), (o_met, .inl (kJ, 23, .inr (.inl f1)))])) (va_Ql (fun (r : Int64) (_ : Unit) => r = 1000000000000 - kv3 k 3) (fun _ t => ∃ (g1 : Nat → Int64), va_P (dC, dI) vwCl [(o, .inr (4, oX4 o_met o_enough x_o)), (o_met, .inl (kJ, 23, .inr (.inl g1)))] t.heap ∧ va_D (va_A [(o, .inr (4, oX4 o_met o_enough x_o)), (o_met, .inl (kJ, 23, .inr (.inl f1)))] sz) [(o, .inr (4, oX4 o_met o_enough x_o)), (o_met, .inl (kJ, 23, .inr (.inl g1)))]) (va_A [(o, .inr (4, oX4 o_met o_enough x_o)), (o_met, .inl (kJ, 23, .inr (.inl f1)))] sz)) 0 0 (va_A [(o, .inr (4, oX4 o_met o_enough x_o)), (o_met, .inl (kJ, 23, .inr (.inl f1)))] sz) := by
  refine Met.ofW (cc := cX4_missed) (maxL := 4) (ret := (some .long)) (by decide) rfl ?_
  intro p e s m args0 below meth c s₁ B hml hv
  obtain ⟨hargs, hsz, hP, hE, hD0⟩ := hv
  have hx := B.exec
  have hb := B.bytes
  have hr := B.returns
  have hts := atoms_spec (ws := wsX4_missed) B.pre
  have hown : s.vm.findClass RX4 = some m.cls := findClass_of_methodNamed B.named
  have hlocks := B.notSynchronized
  have hK := hE.1
  have hin4 : ∀ w ∈ wsX40, w ∈ wsX4_missed := fun _ h9 => List.mem_cons_of_mem _ (List.mem_append_right _ h9)
  subst hsz
  have hD := hD0.self (sz := s.heap.size)
  generalize hAe : va_A [(o, .inr (4, oX4 o_met o_enough x_o)), (o_met, .inl (kJ, 23, .inr (.inl f1)))] s.heap.size = A at hD ⊢
  have hA : ∀ q : Nat, s.heap.size ≤ q → A q := fun q h => by rw [← hAe]; exact Or.inr h
  have hS : va_S A s.heap s.heap [] := va_S.rf
  have hP : va_P (dC, dI) vwCl [(o, .inr (4, oX4 o_met o_enough x_o)), (o_met, .inl (kJ, 23, .inr (.inl f1)))] s.heap := hP
  have hl := lv_entry ([.ref o, .int (nI k), .int 3]) (n := 4) (Nat.le_of_ble_eq_true rfl)
  have hla : entryFrame m args0 4 = entryFrame m ([.ref o, .int (nI k), .int 3] : List Value).toArray 4 := by rw [hargs]
  rw [hla, lg_entry_eq]
  generalize (lg_sl ([.ref o, .int (nI k), .int 3]) ++ List.replicate (4 - (lg_sl ([.ref o, .int (nI k), .int 3])).length) Slot.unset).toArray = ls at hl ⊢
  have hl : lv_has ls 4 [(0, .ref o), (1, .int (nI k)), (2, .int 3)] := hl
  refine lv_iload_n hx hb dX4_missed_0 rfl (lv_at hl 2 rfl) ?_
  refine lv_iconst (v := 1) hx hb dX4_missed_1 (by decide) ?_
  refine lv_icmp_lt (tgt := 14) hx hb dX4_missed_2 (by decide) (fun c9 => absurd c9 (by decide)) (fun _ => ?_)
  refine lv_iload_n hx hb dX4_missed_5 rfl (lv_at hl 2 rfl) ?_
  refine lv_aload_n hx hb dX4_missed_6 rfl (lv_at hl 0 rfl) ?_
  refine va_get (D := (dC, dI)) (ci := 4) (v := .ref o_met) (C := RX4) (T := TX4) (N := 3) hx hb hts hin4 hown hK hP 0 rfl rfl 0 (by decide) (hts (.fieldLink RX4 9 "PathProber$Odds" "met" "[J") (List.mem_of_getElem? (i := 1) (by decide +kernel))) (fun _ h9 => h9) rfl dX4_missed_7 ?_
  refine va_alen (v := 23) hx hb hK hP 1 2 rfl rfl rfl dX4_missed_10 ?_
  refine lv_icmp_lt (tgt := 18) hx hb dX4_missed_11 (by decide) (fun _ => ?_) (fun c9 => absurd (by decide) c9)
  refine lv_aload_n hx hb dX4_missed_18 rfl (lv_at hl 0 rfl) ?_
  refine lv_iload_n hx hb dX4_missed_19 rfl (lv_at hl 2 rfl) ?_
  have hPc := hP.sub (ws' := [(o, .inr (4, oX4 o_met o_enough x_o)), (o_met, .inl (kJ, 23, .inr (.inl f1)))]) [0, 1] rfl
  have hDc := hD.sub (ws' := [(o, .inr (4, oX4 o_met o_enough x_o)), (o_met, .inl (kJ, 23, .inr (.inl f1)))]) [0, 1] (by decide) rfl
  have hFc := va_free (wc := [(o, .inr (4, oX4 o_met o_enough x_o)), (o_met, .inl (kJ, 23, .inr (.inl f1)))]) hD hS hA [0, 1] rfl
  refine va_callv (va_runV (As := [.int 3]) (rest := []) ⟨hx, hb, hml, hown, hts⟩ (e4_begin_3 l dC dI kB kI kJ kZ kC kS s.heap.size o o_met o_enough x_o f1) (cwV 1 hts gX4_missed_X4_begin rfl rfl rfl (by decide +kernel) ⟨Nat.le_of_ble_eq_true rfl, Nat.le_of_ble_eq_true rfl⟩) ⟨fun a U g mk q => by obtain ⟨q0, q1, qP, qE, qD⟩ := q; exact ⟨q0, q1, qP, kE_call qE, qD⟩, va_recv hK hP (ci := 4) (q0 := 0) rfl rfl, fun U hU hW => ⟨rfl, by rw [hU], by rw [hU]; exact hPc, kE_warm hW hE, hDc.weaken (fun _ _ _ _ => trivial)⟩⟩ rfl rfl hl.1 rfl (lv_room (Nat.le_of_ble_eq_true rfl)) dX4_missed_20 ⟨Nat.le_of_ble_eq_true rfl, Nat.le_of_ble_eq_true rfl⟩) hS (fun q _ h => hFc q h) hFc (fun u t H1 locs ht hvm w2 hB hz1 hk1 hS => ?_)
  obtain ⟨g_3, f4, f5, f6, f7, hP1, hD1⟩ := hB
  rw [ht] at hP1
  try dsimp only at w2
  obtain ⟨hP, hD⟩ := va_join (wr := []) (w1 := [(o, .inr (4, [.ref o_met, .ref o_enough, .int (x_o 0)])), (o_met, .inl (kJ, 23, .inr (.inl g_3)))]) hP hD [0, 1] [] rfl rfl (by decide) (by decide) hk1 hFc hP1 hD1
  generalize H1 = H at hP hS ⊢
  have hP : va_P (dC, dI) vwCl [(o, .inr (4, [.ref o_met, .ref o_enough, .int (x_o 0)])), (o_met, .inl (kJ, 23, .inr (.inl g_3)))] H := hP
  have hD : va_D A [(o, .inr (4, [.ref o_met, .ref o_enough, .int (x_o 0)])), (o_met, .inl (kJ, 23, .inr (.inl g_3)))] := hD
  refine W.widen (k := 0) (n := 0) (Nat.le_of_ble_eq_true rfl) (Nat.le_of_ble_eq_true rfl) ?_
  refine lv_iconst (v := 0) hx hb dX4_missed_23 (by decide) ?_
  refine lv_istore_n (lv' := [(3, .int 0), (0, .ref o), (1, .int (nI k)), (2, .int 3)]) hx hb dX4_missed_24 rfl hl (by decide) rfl (fun ls hl => ?_)
  have hloop25 : ∀ (n : Nat) (i : Nat) (fa : Nat → Int64) (H : Heap) (locs : List Loc) (ls : Array Slot), i + n = k → fa 0 = kv3 i 0 → fa 1 = kv3 i 1 → fa 2 = kv3 i 2 → fa 3 = kv3 i 3 → va_P (dC, dI) vwCl [(o, .inr (4, [.ref o_met, .ref o_enough, .int (x_o 0)])), (o_met, .inl (kJ, 23, .inr (.inl fa)))] H → va_D A [(o, .inr (4, [.ref o_met, .ref o_enough, .int (x_o 0)])), (o_met, .inl (kJ, 23, .inr (.inl fa)))] → va_S A s.heap H locs → lv_has ls 4 [(3, .int (nI i)), (0, .ref o), (1, .int (nI k)), (2, .int 3)] → W p l e (headSpec wsX4_missed rm_e4_missed_3).room s m args0 below meth c H locs 0 0 (MQ below (va_Ql (fun (r : Int64) (_ : Unit) => r = 1000000000000 - kv3 k 3) (fun _ t => ∃ (g1 : Nat → Int64), va_P (dC, dI) vwCl [(o, .inr (4, oX4 o_met o_enough x_o)), (o_met, .inl (kJ, 23, .inr (.inl g1)))] t.heap ∧ va_D A [(o, .inr (4, oX4 o_met o_enough x_o)), (o_met, .inl (kJ, 23, .inr (.inl g1)))]) A) args0 s 0 0 A) (F0 m 25 ls []) := by
    intro n
    induction n with
    | zero =>
      intro i fa H locs ls hi hf0 hf1 hf2 hf3 hP hD hS hl
      refine lv_iload_n hx hb dX4_missed_25 rfl (lv_at hl 0 rfl) ?_
      refine lv_iload_n hx hb dX4_missed_26 rfl (lv_at hl 2 rfl) ?_
      refine lv_icmp_ge (tgt := 54) hx hb dX4_missed_27 (by decide) (fun _ => ?_) (fun c9 => absurd (nI_le (by omega) (by omega)) c9)
      refine lv_ldc2 hx hb hown (hts (.constantLong RX4 23 (1000000000000)) (List.mem_of_getElem? (i := 2) (by decide +kernel))) dX4_missed_54 ?_
      refine lv_aload_n hx hb dX4_missed_57 rfl (lv_at hl 1 rfl) ?_
      refine va_get (D := (dC, dI)) (ci := 4) (v := .ref o_met) (C := RX4) (T := TX4) (N := 3) hx hb hts hin4 hown hK hP 0 rfl rfl 0 (by decide) (hts (.fieldLink RX4 9 "PathProber$Odds" "met" "[J") (List.mem_of_getElem? (i := 1) (by decide +kernel))) (fun _ h9 => h9) rfl dX4_missed_58 ?_
      refine lv_iload_n hx hb dX4_missed_61 rfl (lv_at hl 3 rfl) ?_
      refine va_lald hx hb hK hP 1 2 rfl rfl (vp_in_nI (n := 3) (by decide) (by decide)) dX4_missed_62 ?_
      refine lv_topl (fun z8 e9 => ?_)
      obtain rfl : z8 = (fa 3 : Int64) := e9
      refine lv_lsub hx hb dX4_missed_63 ?_
      have hP9 := hP.sub (ws' := [(o, .inr (4, [.ref o_met, .ref o_enough, .int (x_o 0)])), (o_met, .inl (kJ, 23, .inr (.inl fa)))]) [0, 1] rfl
      have hD9 := hD.sub (ws' := [(o, .inr (4, [.ref o_met, .ref o_enough, .int (x_o 0)])), (o_met, .inl (kJ, 23, .inr (.inl fa)))]) [0, 1] (by decide) rfl
      exact W.lret (v := 1000000000000 - (fa 3)) hx hb hr (fun t ht hW => ⟨⟨1000000000000 - (fa 3), (), rfl, by have h9 : i = k := (by omega); subst h9; rw [hf3], fa, by rw [ht]; exact hP9, hD9⟩, hS.F ht⟩) hS.2.2 dX4_missed_64
    | succ n ih =>
      intro i fa H locs ls hi hf0 hf1 hf2 hf3 hP hD hS hl
      refine lv_iload_n hx hb dX4_missed_25 rfl (lv_at hl 0 rfl) ?_
      refine lv_iload_n hx hb dX4_missed_26 rfl (lv_at hl 2 rfl) ?_
      refine lv_icmp_ge (tgt := 54) hx hb dX4_missed_27 (by decide) (fun c9 => absurd c9 (nI_ge (by omega) (by omega))) (fun _ => ?_)
      refine lv_aload_n hx hb dX4_missed_30 rfl (lv_at hl 1 rfl) ?_
      refine va_get (D := (dC, dI)) (ci := 4) (v := .ref o_met) (C := RX4) (T := TX4) (N := 3) hx hb hts hin4 hown hK hP 0 rfl rfl 0 (by decide) (hts (.fieldLink RX4 9 "PathProber$Odds" "met" "[J") (List.mem_of_getElem? (i := 1) (by decide +kernel))) (fun _ h9 => h9) rfl dX4_missed_31 ?_
      refine lv_iload_n hx hb dX4_missed_34 rfl (lv_at hl 3 rfl) ?_
      refine va_lald hx hb hK hP 1 2 rfl rfl (vp_in_nI (n := 3) (by decide) (by decide)) dX4_missed_35 ?_
      refine lv_topl (fun z10 e11 => ?_)
      obtain rfl : z10 = (fa 3 : Int64) := e11
      refine lv_ldc2 hx hb hown (hts (.constantLong RX4 23 (1000000000000)) (List.mem_of_getElem? (i := 2) (by decide +kernel))) dX4_missed_36 ?_
      refine W.lcmp hx hb dX4_missed_39 ?_
      refine lv_if_ge (tgt := 54) hx hb dX4_missed_40 (by decide) (fun c12 => ?_) (fun c12 => ?_)
      · refine lv_ldc2 hx hb hown (hts (.constantLong RX4 23 (1000000000000)) (List.mem_of_getElem? (i := 2) (by decide +kernel))) dX4_missed_54 ?_
        refine lv_aload_n hx hb dX4_missed_57 rfl (lv_at hl 1 rfl) ?_
        refine va_get (D := (dC, dI)) (ci := 4) (v := .ref o_met) (C := RX4) (T := TX4) (N := 3) hx hb hts hin4 hown hK hP 0 rfl rfl 0 (by decide) (hts (.fieldLink RX4 9 "PathProber$Odds" "met" "[J") (List.mem_of_getElem? (i := 1) (by decide +kernel))) (fun _ h9 => h9) rfl dX4_missed_58 ?_
        refine lv_iload_n hx hb dX4_missed_61 rfl (lv_at hl 3 rfl) ?_
        refine va_lald hx hb hK hP 1 2 rfl rfl (vp_in_nI (n := 3) (by decide) (by decide)) dX4_missed_62 ?_
        refine lv_topl (fun z13 e14 => ?_)
        obtain rfl : z13 = (fa 3 : Int64) := e14
        refine lv_lsub hx hb dX4_missed_63 ?_
        have hP9 := hP.sub (ws' := [(o, .inr (4, [.ref o_met, .ref o_enough, .int (x_o 0)])), (o_met, .inl (kJ, 23, .inr (.inl fa)))]) [0, 1] rfl
        have hD9 := hD.sub (ws' := [(o, .inr (4, [.ref o_met, .ref o_enough, .int (x_o 0)])), (o_met, .inl (kJ, 23, .inr (.inl fa)))]) [0, 1] (by decide) rfl
        exact W.lret (v := 1000000000000 - (fa 3)) hx hb hr (fun t ht hW => ⟨⟨1000000000000 - (fa 3), (), rfl, by have h9 := kn_cmp c12; rw [hf3] at h9; have h8 := kvq3 h9 (k - i) (by omega); rw [show i + (k - i) = k by omega] at h8; rw [hf3, h8], fa, by rw [ht]; exact hP9, hD9⟩, hS.F ht⟩) hS.2.2 dX4_missed_64
      · refine lv_aload_n hx hb dX4_missed_43 rfl (lv_at hl 1 rfl) ?_
        refine lv_iload_n hx hb dX4_missed_44 rfl (lv_at hl 3 rfl) ?_
        have hPc := hP.sub (ws' := [(o, .inr (4, [.ref o_met, .ref o_enough, .int (x_o 0)])), (o_met, .inl (kJ, 23, .inr (.inl fa)))]) [0, 1] rfl
        have hDc := hD.sub (ws' := [(o, .inr (4, [.ref o_met, .ref o_enough, .int (x_o 0)])), (o_met, .inl (kJ, 23, .inr (.inl fa)))]) [0, 1] (by decide) rfl
        have hFc := va_free (wc := [(o, .inr (4, [.ref o_met, .ref o_enough, .int (x_o 0)])), (o_met, .inl (kJ, 23, .inr (.inl fa)))]) hD hS hA [0, 1] rfl
        refine va_callv (va_runV (As := [.int 3]) (rest := []) ⟨hx, hb, hml, hown, hts⟩ (e4_sendNext_3 l dC dI kB kI kJ kZ kC kS H.size o o_met o_enough x_o fa) (cwV 1 hts gX4_missed_X4_sendNext rfl rfl rfl (by decide +kernel) ⟨Nat.le_of_ble_eq_true rfl, Nat.le_of_ble_eq_true rfl⟩) ⟨fun a U g mk q => by obtain ⟨q0, q1, qP, qE, qD⟩ := q; exact ⟨q0, q1, qP, kE_call qE, qD⟩, va_recv hK hP (ci := 4) (q0 := 0) rfl rfl, fun U hU hW => ⟨rfl, by rw [hU], by rw [hU]; exact hPc, kE_warm hW hE, hDc.weaken (fun _ _ _ _ => trivial)⟩⟩ rfl rfl hl.1 rfl (lv_room (Nat.le_of_ble_eq_true rfl)) dX4_missed_45 ⟨Nat.le_of_ble_eq_true rfl, Nat.le_of_ble_eq_true rfl⟩) hS (fun q _ h => hFc q h) hFc (fun u t H1 locs ht hvm w16 hB hz1 hk1 hS => ?_)
        obtain ⟨g_17, f18, f19, f20, f21, hP1, hD1⟩ := hB
        rw [ht] at hP1
        try dsimp only at w16
        obtain ⟨hP, hD⟩ := va_join (wr := []) (w1 := [(o, .inr (4, [.ref o_met, .ref o_enough, .int (x_o 0)])), (o_met, .inl (kJ, 23, .inr (.inl g_17)))]) hP hD [0, 1] [] rfl rfl (by decide) (by decide) hk1 hFc hP1 hD1
        generalize H1 = H at hP hS ⊢
        have hP : va_P (dC, dI) vwCl [(o, .inr (4, [.ref o_met, .ref o_enough, .int (x_o 0)])), (o_met, .inl (kJ, 23, .inr (.inl g_17)))] H := hP
        have hD : va_D A [(o, .inr (4, [.ref o_met, .ref o_enough, .int (x_o 0)])), (o_met, .inl (kJ, 23, .inr (.inl g_17)))] := hD
        refine W.widen (k := 0) (n := 0) (Nat.le_of_ble_eq_true rfl) (Nat.le_of_ble_eq_true rfl) ?_
        refine lv_iinc (v := nI (i + 1)) (lv' := [(3, .int (nI (i + 1))), (0, .ref o), (1, .int (nI k)), (2, .int 3)]) hx hb dX4_missed_48 hl (k := 0) rfl (nI_1 i) (by decide) rfl (fun ls hl => ?_)
        refine lv_goto (tgt := 25) hx hb dX4_missed_51 (by decide) ?_
        exact ih (i + 1) g_17 _ _ _ (by omega) (by rw [f18, hf0]; exact kvs3_0 i (by omega)) (by rw [f19, hf0, hf1]; exact kvs3_1 i (by omega)) (by rw [f20, hf1, hf2]; exact kvs3_2 i (by omega)) (by rw [f21, hf2, hf3]; exact kvs3_3 i (by omega)) (hP.sub [0, 1] rfl) (hD.sub [0, 1] (by decide) rfl) hS (lv_sub hl [0, 1, 2, 3] rfl)
  exact hloop25 k 0 g_3 _ _ _ (Nat.zero_add _) (f4) (f5) (f6) (f7) hP hD hS (lv_sub hl [0, 1, 2, 3] rfl)
def rm_e4_missed_4 : Room := { frames := 1, cells := 0, slots := 0, locals := 24 }
set_option maxHeartbeats 4000000 in
set_option maxRecDepth 100000 in
theorem e4_missed_4 (l : Launch) (dC : Nat → ClassId) (dI : Nat → Nat → Nat) (kB kI kJ kZ kC kS : ClassId) (sz : Nat) (o : Nat) (o_met : Nat) (o_enough : Nat) (x_o : Nat → Int32) (k : Nat) (f1 : Nat → Int64) (hk : k ≤ 60) : Met l yX4_missed wsX4_missed rm_e4_missed_4 (va_Pc [.ref o, .int (nI k), .int 4] (fun U => U.heap.size = sz ∧ va_P (dC, dI) vwCl [(o, .inr (4, oX4 o_met o_enough x_o)), (o_met, .inl (kJ, 23, .inr (.inl f1)))] U.heap ∧ kE dC dI kB kI kJ kZ kC kS U ∧ va_D (fun _ => True) [(o, .inr (4, oX4 o_met o_enough x_o)), (o_met, .inl (kJ, 23, .inr (.inl f1)))])) (va_Ql (fun (r : Int64) (_ : Unit) => r = 1000000000000 - kv4 k 4) (fun _ t => ∃ (g1 : Nat → Int64), va_P (dC, dI) vwCl [(o, .inr (4, oX4 o_met o_enough x_o)), (o_met, .inl (kJ, 23, .inr (.inl g1)))] t.heap ∧ va_D (va_A [(o, .inr (4, oX4 o_met o_enough x_o)), (o_met, .inl (kJ, 23, .inr (.inl f1)))] sz) [(o, .inr (4, oX4 o_met o_enough x_o)), (o_met, .inl (kJ, 23, .inr (.inl g1)))]) (va_A [(o, .inr (4, oX4 o_met o_enough x_o)), (o_met, .inl (kJ, 23, .inr (.inl f1)))] sz)) 0 0 (va_A [(o, .inr (4, oX4 o_met o_enough x_o)), (o_met, .inl (kJ, 23, .inr (.inl f1)))] sz) := by
  refine Met.ofW (cc := cX4_missed) (maxL := 4) (ret := (some .long)) (by decide) rfl ?_
  intro p e s m args0 below meth c s₁ B hml hv
  obtain ⟨hargs, hsz, hP, hE, hD0⟩ := hv
  have hx := B.exec
  have hb := B.bytes
  have hr := B.returns
  have hts := atoms_spec (ws := wsX4_missed) B.pre
  have hown : s.vm.findClass RX4 = some m.cls := findClass_of_methodNamed B.named
  have hlocks := B.notSynchronized
  have hK := hE.1
  have hin4 : ∀ w ∈ wsX40, w ∈ wsX4_missed := fun _ h9 => List.mem_cons_of_mem _ (List.mem_append_right _ h9)
  subst hsz
  have hD := hD0.self (sz := s.heap.size)
  generalize hAe : va_A [(o, .inr (4, oX4 o_met o_enough x_o)), (o_met, .inl (kJ, 23, .inr (.inl f1)))] s.heap.size = A at hD ⊢
  have hA : ∀ q : Nat, s.heap.size ≤ q → A q := fun q h => by rw [← hAe]; exact Or.inr h
  have hS : va_S A s.heap s.heap [] := va_S.rf
  have hP : va_P (dC, dI) vwCl [(o, .inr (4, oX4 o_met o_enough x_o)), (o_met, .inl (kJ, 23, .inr (.inl f1)))] s.heap := hP
  have hl := lv_entry ([.ref o, .int (nI k), .int 4]) (n := 4) (Nat.le_of_ble_eq_true rfl)
  have hla : entryFrame m args0 4 = entryFrame m ([.ref o, .int (nI k), .int 4] : List Value).toArray 4 := by rw [hargs]
  rw [hla, lg_entry_eq]
  generalize (lg_sl ([.ref o, .int (nI k), .int 4]) ++ List.replicate (4 - (lg_sl ([.ref o, .int (nI k), .int 4])).length) Slot.unset).toArray = ls at hl ⊢
  have hl : lv_has ls 4 [(0, .ref o), (1, .int (nI k)), (2, .int 4)] := hl
  refine lv_iload_n hx hb dX4_missed_0 rfl (lv_at hl 2 rfl) ?_
  refine lv_iconst (v := 1) hx hb dX4_missed_1 (by decide) ?_
  refine lv_icmp_lt (tgt := 14) hx hb dX4_missed_2 (by decide) (fun c9 => absurd c9 (by decide)) (fun _ => ?_)
  refine lv_iload_n hx hb dX4_missed_5 rfl (lv_at hl 2 rfl) ?_
  refine lv_aload_n hx hb dX4_missed_6 rfl (lv_at hl 0 rfl) ?_
  refine va_get (D := (dC, dI)) (ci := 4) (v := .ref o_met) (C := RX4) (T := TX4) (N := 3) hx hb hts hin4 hown hK hP 0 rfl rfl 0 (by decide) (hts (.fieldLink RX4 9 "PathProber$Odds" "met" "[J") (List.mem_of_getElem? (i := 1) (by decide +kernel))) (fun _ h9 => h9) rfl dX4_missed_7 ?_
  refine va_alen (v := 23) hx hb hK hP 1 2 rfl rfl rfl dX4_missed_10 ?_
  refine lv_icmp_lt (tgt := 18) hx hb dX4_missed_11 (by decide) (fun _ => ?_) (fun c9 => absurd (by decide) c9)
  refine lv_aload_n hx hb dX4_missed_18 rfl (lv_at hl 0 rfl) ?_
  refine lv_iload_n hx hb dX4_missed_19 rfl (lv_at hl 2 rfl) ?_
  have hPc := hP.sub (ws' := [(o, .inr (4, oX4 o_met o_enough x_o)), (o_met, .inl (kJ, 23, .inr (.inl f1)))]) [0, 1] rfl
  have hDc := hD.sub (ws' := [(o, .inr (4, oX4 o_met o_enough x_o)), (o_met, .inl (kJ, 23, .inr (.inl f1)))]) [0, 1] (by decide) rfl
  have hFc := va_free (wc := [(o, .inr (4, oX4 o_met o_enough x_o)), (o_met, .inl (kJ, 23, .inr (.inl f1)))]) hD hS hA [0, 1] rfl
  refine va_callv (va_runV (As := [.int 4]) (rest := []) ⟨hx, hb, hml, hown, hts⟩ (e4_begin_4 l dC dI kB kI kJ kZ kC kS s.heap.size o o_met o_enough x_o f1) (cwV 1 hts gX4_missed_X4_begin rfl rfl rfl (by decide +kernel) ⟨Nat.le_of_ble_eq_true rfl, Nat.le_of_ble_eq_true rfl⟩) ⟨fun a U g mk q => by obtain ⟨q0, q1, qP, qE, qD⟩ := q; exact ⟨q0, q1, qP, kE_call qE, qD⟩, va_recv hK hP (ci := 4) (q0 := 0) rfl rfl, fun U hU hW => ⟨rfl, by rw [hU], by rw [hU]; exact hPc, kE_warm hW hE, hDc.weaken (fun _ _ _ _ => trivial)⟩⟩ rfl rfl hl.1 rfl (lv_room (Nat.le_of_ble_eq_true rfl)) dX4_missed_20 ⟨Nat.le_of_ble_eq_true rfl, Nat.le_of_ble_eq_true rfl⟩) hS (fun q _ h => hFc q h) hFc (fun u t H1 locs ht hvm w2 hB hz1 hk1 hS => ?_)
  obtain ⟨g_3, f4, f5, f6, f7, f8, hP1, hD1⟩ := hB
  rw [ht] at hP1
  try dsimp only at w2
  obtain ⟨hP, hD⟩ := va_join (wr := []) (w1 := [(o, .inr (4, [.ref o_met, .ref o_enough, .int (x_o 0)])), (o_met, .inl (kJ, 23, .inr (.inl g_3)))]) hP hD [0, 1] [] rfl rfl (by decide) (by decide) hk1 hFc hP1 hD1
  generalize H1 = H at hP hS ⊢
  have hP : va_P (dC, dI) vwCl [(o, .inr (4, [.ref o_met, .ref o_enough, .int (x_o 0)])), (o_met, .inl (kJ, 23, .inr (.inl g_3)))] H := hP
  have hD : va_D A [(o, .inr (4, [.ref o_met, .ref o_enough, .int (x_o 0)])), (o_met, .inl (kJ, 23, .inr (.inl g_3)))] := hD
  refine W.widen (k := 0) (n := 0) (Nat.le_of_ble_eq_true rfl) (Nat.le_of_ble_eq_true rfl) ?_
  refine lv_iconst (v := 0) hx hb dX4_missed_23 (by decide) ?_
  refine lv_istore_n (lv' := [(3, .int 0), (0, .ref o), (1, .int (nI k)), (2, .int 4)]) hx hb dX4_missed_24 rfl hl (by decide) rfl (fun ls hl => ?_)
  have hloop25 : ∀ (n : Nat) (i : Nat) (fa : Nat → Int64) (H : Heap) (locs : List Loc) (ls : Array Slot), i + n = k → fa 0 = kv4 i 0 → fa 1 = kv4 i 1 → fa 2 = kv4 i 2 → fa 3 = kv4 i 3 → fa 4 = kv4 i 4 → va_P (dC, dI) vwCl [(o, .inr (4, [.ref o_met, .ref o_enough, .int (x_o 0)])), (o_met, .inl (kJ, 23, .inr (.inl fa)))] H → va_D A [(o, .inr (4, [.ref o_met, .ref o_enough, .int (x_o 0)])), (o_met, .inl (kJ, 23, .inr (.inl fa)))] → va_S A s.heap H locs → lv_has ls 4 [(3, .int (nI i)), (0, .ref o), (1, .int (nI k)), (2, .int 4)] → W p l e (headSpec wsX4_missed rm_e4_missed_4).room s m args0 below meth c H locs 0 0 (MQ below (va_Ql (fun (r : Int64) (_ : Unit) => r = 1000000000000 - kv4 k 4) (fun _ t => ∃ (g1 : Nat → Int64), va_P (dC, dI) vwCl [(o, .inr (4, oX4 o_met o_enough x_o)), (o_met, .inl (kJ, 23, .inr (.inl g1)))] t.heap ∧ va_D A [(o, .inr (4, oX4 o_met o_enough x_o)), (o_met, .inl (kJ, 23, .inr (.inl g1)))]) A) args0 s 0 0 A) (F0 m 25 ls []) := by
    intro n
    induction n with
    | zero =>
      intro i fa H locs ls hi hf0 hf1 hf2 hf3 hf4 hP hD hS hl
      refine lv_iload_n hx hb dX4_missed_25 rfl (lv_at hl 0 rfl) ?_
      refine lv_iload_n hx hb dX4_missed_26 rfl (lv_at hl 2 rfl) ?_
      refine lv_icmp_ge (tgt := 54) hx hb dX4_missed_27 (by decide) (fun _ => ?_) (fun c9 => absurd (nI_le (by omega) (by omega)) c9)
      refine lv_ldc2 hx hb hown (hts (.constantLong RX4 23 (1000000000000)) (List.mem_of_getElem? (i := 2) (by decide +kernel))) dX4_missed_54 ?_
      refine lv_aload_n hx hb dX4_missed_57 rfl (lv_at hl 1 rfl) ?_
      refine va_get (D := (dC, dI)) (ci := 4) (v := .ref o_met) (C := RX4) (T := TX4) (N := 3) hx hb hts hin4 hown hK hP 0 rfl rfl 0 (by decide) (hts (.fieldLink RX4 9 "PathProber$Odds" "met" "[J") (List.mem_of_getElem? (i := 1) (by decide +kernel))) (fun _ h9 => h9) rfl dX4_missed_58 ?_
      refine lv_iload_n hx hb dX4_missed_61 rfl (lv_at hl 3 rfl) ?_
      refine va_lald hx hb hK hP 1 2 rfl rfl (vp_in_nI (n := 4) (by decide) (by decide)) dX4_missed_62 ?_
      refine lv_topl (fun z9 e10 => ?_)
      obtain rfl : z9 = (fa 4 : Int64) := e10
      refine lv_lsub hx hb dX4_missed_63 ?_
      have hP9 := hP.sub (ws' := [(o, .inr (4, [.ref o_met, .ref o_enough, .int (x_o 0)])), (o_met, .inl (kJ, 23, .inr (.inl fa)))]) [0, 1] rfl
      have hD9 := hD.sub (ws' := [(o, .inr (4, [.ref o_met, .ref o_enough, .int (x_o 0)])), (o_met, .inl (kJ, 23, .inr (.inl fa)))]) [0, 1] (by decide) rfl
      exact W.lret (v := 1000000000000 - (fa 4)) hx hb hr (fun t ht hW => ⟨⟨1000000000000 - (fa 4), (), rfl, by have h9 : i = k := (by omega); subst h9; rw [hf4], fa, by rw [ht]; exact hP9, hD9⟩, hS.F ht⟩) hS.2.2 dX4_missed_64
    | succ n ih =>
      intro i fa H locs ls hi hf0 hf1 hf2 hf3 hf4 hP hD hS hl
      refine lv_iload_n hx hb dX4_missed_25 rfl (lv_at hl 0 rfl) ?_
      refine lv_iload_n hx hb dX4_missed_26 rfl (lv_at hl 2 rfl) ?_
      refine lv_icmp_ge (tgt := 54) hx hb dX4_missed_27 (by decide) (fun c9 => absurd c9 (nI_ge (by omega) (by omega))) (fun _ => ?_)
      refine lv_aload_n hx hb dX4_missed_30 rfl (lv_at hl 1 rfl) ?_
      refine va_get (D := (dC, dI)) (ci := 4) (v := .ref o_met) (C := RX4) (T := TX4) (N := 3) hx hb hts hin4 hown hK hP 0 rfl rfl 0 (by decide) (hts (.fieldLink RX4 9 "PathProber$Odds" "met" "[J") (List.mem_of_getElem? (i := 1) (by decide +kernel))) (fun _ h9 => h9) rfl dX4_missed_31 ?_
      refine lv_iload_n hx hb dX4_missed_34 rfl (lv_at hl 3 rfl) ?_
      refine va_lald hx hb hK hP 1 2 rfl rfl (vp_in_nI (n := 4) (by decide) (by decide)) dX4_missed_35 ?_
      refine lv_topl (fun z11 e12 => ?_)
      obtain rfl : z11 = (fa 4 : Int64) := e12
      refine lv_ldc2 hx hb hown (hts (.constantLong RX4 23 (1000000000000)) (List.mem_of_getElem? (i := 2) (by decide +kernel))) dX4_missed_36 ?_
      refine W.lcmp hx hb dX4_missed_39 ?_
      refine lv_if_ge (tgt := 54) hx hb dX4_missed_40 (by decide) (fun c13 => ?_) (fun c13 => ?_)
      · refine lv_ldc2 hx hb hown (hts (.constantLong RX4 23 (1000000000000)) (List.mem_of_getElem? (i := 2) (by decide +kernel))) dX4_missed_54 ?_
        refine lv_aload_n hx hb dX4_missed_57 rfl (lv_at hl 1 rfl) ?_
        refine va_get (D := (dC, dI)) (ci := 4) (v := .ref o_met) (C := RX4) (T := TX4) (N := 3) hx hb hts hin4 hown hK hP 0 rfl rfl 0 (by decide) (hts (.fieldLink RX4 9 "PathProber$Odds" "met" "[J") (List.mem_of_getElem? (i := 1) (by decide +kernel))) (fun _ h9 => h9) rfl dX4_missed_58 ?_
        refine lv_iload_n hx hb dX4_missed_61 rfl (lv_at hl 3 rfl) ?_
        refine va_lald hx hb hK hP 1 2 rfl rfl (vp_in_nI (n := 4) (by decide) (by decide)) dX4_missed_62 ?_
        refine lv_topl (fun z14 e15 => ?_)
        obtain rfl : z14 = (fa 4 : Int64) := e15
        refine lv_lsub hx hb dX4_missed_63 ?_
        have hP9 := hP.sub (ws' := [(o, .inr (4, [.ref o_met, .ref o_enough, .int (x_o 0)])), (o_met, .inl (kJ, 23, .inr (.inl fa)))]) [0, 1] rfl
        have hD9 := hD.sub (ws' := [(o, .inr (4, [.ref o_met, .ref o_enough, .int (x_o 0)])), (o_met, .inl (kJ, 23, .inr (.inl fa)))]) [0, 1] (by decide) rfl
        exact W.lret (v := 1000000000000 - (fa 4)) hx hb hr (fun t ht hW => ⟨⟨1000000000000 - (fa 4), (), rfl, by have h9 := kn_cmp c13; rw [hf4] at h9; have h8 := kvq4 h9 (k - i) (by omega); rw [show i + (k - i) = k by omega] at h8; rw [hf4, h8], fa, by rw [ht]; exact hP9, hD9⟩, hS.F ht⟩) hS.2.2 dX4_missed_64
      · refine lv_aload_n hx hb dX4_missed_43 rfl (lv_at hl 1 rfl) ?_
        refine lv_iload_n hx hb dX4_missed_44 rfl (lv_at hl 3 rfl) ?_
        have hPc := hP.sub (ws' := [(o, .inr (4, [.ref o_met, .ref o_enough, .int (x_o 0)])), (o_met, .inl (kJ, 23, .inr (.inl fa)))]) [0, 1] rfl
        have hDc := hD.sub (ws' := [(o, .inr (4, [.ref o_met, .ref o_enough, .int (x_o 0)])), (o_met, .inl (kJ, 23, .inr (.inl fa)))]) [0, 1] (by decide) rfl
        have hFc := va_free (wc := [(o, .inr (4, [.ref o_met, .ref o_enough, .int (x_o 0)])), (o_met, .inl (kJ, 23, .inr (.inl fa)))]) hD hS hA [0, 1] rfl
        refine va_callv (va_runV (As := [.int 4]) (rest := []) ⟨hx, hb, hml, hown, hts⟩ (e4_sendNext_4 l dC dI kB kI kJ kZ kC kS H.size o o_met o_enough x_o fa) (cwV 1 hts gX4_missed_X4_sendNext rfl rfl rfl (by decide +kernel) ⟨Nat.le_of_ble_eq_true rfl, Nat.le_of_ble_eq_true rfl⟩) ⟨fun a U g mk q => by obtain ⟨q0, q1, qP, qE, qD⟩ := q; exact ⟨q0, q1, qP, kE_call qE, qD⟩, va_recv hK hP (ci := 4) (q0 := 0) rfl rfl, fun U hU hW => ⟨rfl, by rw [hU], by rw [hU]; exact hPc, kE_warm hW hE, hDc.weaken (fun _ _ _ _ => trivial)⟩⟩ rfl rfl hl.1 rfl (lv_room (Nat.le_of_ble_eq_true rfl)) dX4_missed_45 ⟨Nat.le_of_ble_eq_true rfl, Nat.le_of_ble_eq_true rfl⟩) hS (fun q _ h => hFc q h) hFc (fun u t H1 locs ht hvm w17 hB hz1 hk1 hS => ?_)
        obtain ⟨g_18, f19, f20, f21, f22, f23, hP1, hD1⟩ := hB
        rw [ht] at hP1
        try dsimp only at w17
        obtain ⟨hP, hD⟩ := va_join (wr := []) (w1 := [(o, .inr (4, [.ref o_met, .ref o_enough, .int (x_o 0)])), (o_met, .inl (kJ, 23, .inr (.inl g_18)))]) hP hD [0, 1] [] rfl rfl (by decide) (by decide) hk1 hFc hP1 hD1
        generalize H1 = H at hP hS ⊢
        have hP : va_P (dC, dI) vwCl [(o, .inr (4, [.ref o_met, .ref o_enough, .int (x_o 0)])), (o_met, .inl (kJ, 23, .inr (.inl g_18)))] H := hP
        have hD : va_D A [(o, .inr (4, [.ref o_met, .ref o_enough, .int (x_o 0)])), (o_met, .inl (kJ, 23, .inr (.inl g_18)))] := hD
        refine W.widen (k := 0) (n := 0) (Nat.le_of_ble_eq_true rfl) (Nat.le_of_ble_eq_true rfl) ?_
        refine lv_iinc (v := nI (i + 1)) (lv' := [(3, .int (nI (i + 1))), (0, .ref o), (1, .int (nI k)), (2, .int 4)]) hx hb dX4_missed_48 hl (k := 0) rfl (nI_1 i) (by decide) rfl (fun ls hl => ?_)
        refine lv_goto (tgt := 25) hx hb dX4_missed_51 (by decide) ?_
        exact ih (i + 1) g_18 _ _ _ (by omega) (by rw [f19, hf0]; exact kvs4_0 i (by omega)) (by rw [f20, hf0, hf1]; exact kvs4_1 i (by omega)) (by rw [f21, hf1, hf2]; exact kvs4_2 i (by omega)) (by rw [f22, hf2, hf3]; exact kvs4_3 i (by omega)) (by rw [f23, hf3, hf4]; exact kvs4_4 i (by omega)) (hP.sub [0, 1] rfl) (hD.sub [0, 1] (by decide) rfl) hS (lv_sub hl [0, 1, 2, 3] rfl)
  exact hloop25 k 0 g_3 _ _ _ (Nat.zero_add _) (f4) (f5) (f6) (f7) (f8) hP hD hS (lv_sub hl [0, 1, 2, 3] rfl)
def rm_e4_missed_5 : Room := { frames := 1, cells := 0, slots := 0, locals := 24 }
set_option maxHeartbeats 4000000 in
set_option maxRecDepth 100000 in
theorem e4_missed_5 (l : Launch) (dC : Nat → ClassId) (dI : Nat → Nat → Nat) (kB kI kJ kZ kC kS : ClassId) (sz : Nat) (o : Nat) (o_met : Nat) (o_enough : Nat) (x_o : Nat → Int32) (k : Nat) (f1 : Nat → Int64) (hk : k ≤ 60) : Met l yX4_missed wsX4_missed rm_e4_missed_5 (va_Pc [.ref o, .int (nI k), .int 5] (fun U => U.heap.size = sz ∧ va_P (dC, dI) vwCl [(o, .inr (4, oX4 o_met o_enough x_o)), (o_met, .inl (kJ, 23, .inr (.inl f1)))] U.heap ∧ kE dC dI kB kI kJ kZ kC kS U ∧ va_D (fun _ => True) [(o, .inr (4, oX4 o_met o_enough x_o)), (o_met, .inl (kJ, 23, .inr (.inl f1)))])) (va_Ql (fun (r : Int64) (_ : Unit) => r = 1000000000000 - kv5 k 5) (fun _ t => ∃ (g1 : Nat → Int64), va_P (dC, dI) vwCl [(o, .inr (4, oX4 o_met o_enough x_o)), (o_met, .inl (kJ, 23, .inr (.inl g1)))] t.heap ∧ va_D (va_A [(o, .inr (4, oX4 o_met o_enough x_o)), (o_met, .inl (kJ, 23, .inr (.inl f1)))] sz) [(o, .inr (4, oX4 o_met o_enough x_o)), (o_met, .inl (kJ, 23, .inr (.inl g1)))]) (va_A [(o, .inr (4, oX4 o_met o_enough x_o)), (o_met, .inl (kJ, 23, .inr (.inl f1)))] sz)) 0 0 (va_A [(o, .inr (4, oX4 o_met o_enough x_o)), (o_met, .inl (kJ, 23, .inr (.inl f1)))] sz) := by
  refine Met.ofW (cc := cX4_missed) (maxL := 4) (ret := (some .long)) (by decide) rfl ?_
  intro p e s m args0 below meth c s₁ B hml hv
  obtain ⟨hargs, hsz, hP, hE, hD0⟩ := hv
  have hx := B.exec
  have hb := B.bytes
  have hr := B.returns
  have hts := atoms_spec (ws := wsX4_missed) B.pre
  have hown : s.vm.findClass RX4 = some m.cls := findClass_of_methodNamed B.named
  have hlocks := B.notSynchronized
  have hK := hE.1
  have hin4 : ∀ w ∈ wsX40, w ∈ wsX4_missed := fun _ h9 => List.mem_cons_of_mem _ (List.mem_append_right _ h9)
  subst hsz
  have hD := hD0.self (sz := s.heap.size)
  generalize hAe : va_A [(o, .inr (4, oX4 o_met o_enough x_o)), (o_met, .inl (kJ, 23, .inr (.inl f1)))] s.heap.size = A at hD ⊢
  have hA : ∀ q : Nat, s.heap.size ≤ q → A q := fun q h => by rw [← hAe]; exact Or.inr h
  have hS : va_S A s.heap s.heap [] := va_S.rf
  have hP : va_P (dC, dI) vwCl [(o, .inr (4, oX4 o_met o_enough x_o)), (o_met, .inl (kJ, 23, .inr (.inl f1)))] s.heap := hP
  have hl := lv_entry ([.ref o, .int (nI k), .int 5]) (n := 4) (Nat.le_of_ble_eq_true rfl)
  have hla : entryFrame m args0 4 = entryFrame m ([.ref o, .int (nI k), .int 5] : List Value).toArray 4 := by rw [hargs]
  rw [hla, lg_entry_eq]
  generalize (lg_sl ([.ref o, .int (nI k), .int 5]) ++ List.replicate (4 - (lg_sl ([.ref o, .int (nI k), .int 5])).length) Slot.unset).toArray = ls at hl ⊢
  have hl : lv_has ls 4 [(0, .ref o), (1, .int (nI k)), (2, .int 5)] := hl
  refine lv_iload_n hx hb dX4_missed_0 rfl (lv_at hl 2 rfl) ?_
  refine lv_iconst (v := 1) hx hb dX4_missed_1 (by decide) ?_
  refine lv_icmp_lt (tgt := 14) hx hb dX4_missed_2 (by decide) (fun c9 => absurd c9 (by decide)) (fun _ => ?_)
  refine lv_iload_n hx hb dX4_missed_5 rfl (lv_at hl 2 rfl) ?_
  refine lv_aload_n hx hb dX4_missed_6 rfl (lv_at hl 0 rfl) ?_
  refine va_get (D := (dC, dI)) (ci := 4) (v := .ref o_met) (C := RX4) (T := TX4) (N := 3) hx hb hts hin4 hown hK hP 0 rfl rfl 0 (by decide) (hts (.fieldLink RX4 9 "PathProber$Odds" "met" "[J") (List.mem_of_getElem? (i := 1) (by decide +kernel))) (fun _ h9 => h9) rfl dX4_missed_7 ?_
  refine va_alen (v := 23) hx hb hK hP 1 2 rfl rfl rfl dX4_missed_10 ?_
  refine lv_icmp_lt (tgt := 18) hx hb dX4_missed_11 (by decide) (fun _ => ?_) (fun c9 => absurd (by decide) c9)
  refine lv_aload_n hx hb dX4_missed_18 rfl (lv_at hl 0 rfl) ?_
  refine lv_iload_n hx hb dX4_missed_19 rfl (lv_at hl 2 rfl) ?_
  have hPc := hP.sub (ws' := [(o, .inr (4, oX4 o_met o_enough x_o)), (o_met, .inl (kJ, 23, .inr (.inl f1)))]) [0, 1] rfl
  have hDc := hD.sub (ws' := [(o, .inr (4, oX4 o_met o_enough x_o)), (o_met, .inl (kJ, 23, .inr (.inl f1)))]) [0, 1] (by decide) rfl
  have hFc := va_free (wc := [(o, .inr (4, oX4 o_met o_enough x_o)), (o_met, .inl (kJ, 23, .inr (.inl f1)))]) hD hS hA [0, 1] rfl
  refine va_callv (va_runV (As := [.int 5]) (rest := []) ⟨hx, hb, hml, hown, hts⟩ (e4_begin_5 l dC dI kB kI kJ kZ kC kS s.heap.size o o_met o_enough x_o f1) (cwV 1 hts gX4_missed_X4_begin rfl rfl rfl (by decide +kernel) ⟨Nat.le_of_ble_eq_true rfl, Nat.le_of_ble_eq_true rfl⟩) ⟨fun a U g mk q => by obtain ⟨q0, q1, qP, qE, qD⟩ := q; exact ⟨q0, q1, qP, kE_call qE, qD⟩, va_recv hK hP (ci := 4) (q0 := 0) rfl rfl, fun U hU hW => ⟨rfl, by rw [hU], by rw [hU]; exact hPc, kE_warm hW hE, hDc.weaken (fun _ _ _ _ => trivial)⟩⟩ rfl rfl hl.1 rfl (lv_room (Nat.le_of_ble_eq_true rfl)) dX4_missed_20 ⟨Nat.le_of_ble_eq_true rfl, Nat.le_of_ble_eq_true rfl⟩) hS (fun q _ h => hFc q h) hFc (fun u t H1 locs ht hvm w2 hB hz1 hk1 hS => ?_)
  obtain ⟨g_3, f4, f5, f6, f7, f8, f9, hP1, hD1⟩ := hB
  rw [ht] at hP1
  try dsimp only at w2
  obtain ⟨hP, hD⟩ := va_join (wr := []) (w1 := [(o, .inr (4, [.ref o_met, .ref o_enough, .int (x_o 0)])), (o_met, .inl (kJ, 23, .inr (.inl g_3)))]) hP hD [0, 1] [] rfl rfl (by decide) (by decide) hk1 hFc hP1 hD1
  generalize H1 = H at hP hS ⊢
  have hP : va_P (dC, dI) vwCl [(o, .inr (4, [.ref o_met, .ref o_enough, .int (x_o 0)])), (o_met, .inl (kJ, 23, .inr (.inl g_3)))] H := hP
  have hD : va_D A [(o, .inr (4, [.ref o_met, .ref o_enough, .int (x_o 0)])), (o_met, .inl (kJ, 23, .inr (.inl g_3)))] := hD
  refine W.widen (k := 0) (n := 0) (Nat.le_of_ble_eq_true rfl) (Nat.le_of_ble_eq_true rfl) ?_
  refine lv_iconst (v := 0) hx hb dX4_missed_23 (by decide) ?_
  refine lv_istore_n (lv' := [(3, .int 0), (0, .ref o), (1, .int (nI k)), (2, .int 5)]) hx hb dX4_missed_24 rfl hl (by decide) rfl (fun ls hl => ?_)
  have hloop25 : ∀ (n : Nat) (i : Nat) (fa : Nat → Int64) (H : Heap) (locs : List Loc) (ls : Array Slot), i + n = k → fa 0 = kv5 i 0 → fa 1 = kv5 i 1 → fa 2 = kv5 i 2 → fa 3 = kv5 i 3 → fa 4 = kv5 i 4 → fa 5 = kv5 i 5 → va_P (dC, dI) vwCl [(o, .inr (4, [.ref o_met, .ref o_enough, .int (x_o 0)])), (o_met, .inl (kJ, 23, .inr (.inl fa)))] H → va_D A [(o, .inr (4, [.ref o_met, .ref o_enough, .int (x_o 0)])), (o_met, .inl (kJ, 23, .inr (.inl fa)))] → va_S A s.heap H locs → lv_has ls 4 [(3, .int (nI i)), (0, .ref o), (1, .int (nI k)), (2, .int 5)] → W p l e (headSpec wsX4_missed rm_e4_missed_5).room s m args0 below meth c H locs 0 0 (MQ below (va_Ql (fun (r : Int64) (_ : Unit) => r = 1000000000000 - kv5 k 5) (fun _ t => ∃ (g1 : Nat → Int64), va_P (dC, dI) vwCl [(o, .inr (4, oX4 o_met o_enough x_o)), (o_met, .inl (kJ, 23, .inr (.inl g1)))] t.heap ∧ va_D A [(o, .inr (4, oX4 o_met o_enough x_o)), (o_met, .inl (kJ, 23, .inr (.inl g1)))]) A) args0 s 0 0 A) (F0 m 25 ls []) := by
    intro n
    induction n with
    | zero =>
      intro i fa H locs ls hi hf0 hf1 hf2 hf3 hf4 hf5 hP hD hS hl
      refine lv_iload_n hx hb dX4_missed_25 rfl (lv_at hl 0 rfl) ?_
      refine lv_iload_n hx hb dX4_missed_26 rfl (lv_at hl 2 rfl) ?_
      refine lv_icmp_ge (tgt := 54) hx hb dX4_missed_27 (by decide) (fun _ => ?_) (fun c9 => absurd (nI_le (by omega) (by omega)) c9)
      refine lv_ldc2 hx hb hown (hts (.constantLong RX4 23 (1000000000000)) (List.mem_of_getElem? (i := 2) (by decide +kernel))) dX4_missed_54 ?_
      refine lv_aload_n hx hb dX4_missed_57 rfl (lv_at hl 1 rfl) ?_
      refine va_get (D := (dC, dI)) (ci := 4) (v := .ref o_met) (C := RX4) (T := TX4) (N := 3) hx hb hts hin4 hown hK hP 0 rfl rfl 0 (by decide) (hts (.fieldLink RX4 9 "PathProber$Odds" "met" "[J") (List.mem_of_getElem? (i := 1) (by decide +kernel))) (fun _ h9 => h9) rfl dX4_missed_58 ?_
      refine lv_iload_n hx hb dX4_missed_61 rfl (lv_at hl 3 rfl) ?_
      refine va_lald hx hb hK hP 1 2 rfl rfl (vp_in_nI (n := 5) (by decide) (by decide)) dX4_missed_62 ?_
      refine lv_topl (fun z10 e11 => ?_)
      obtain rfl : z10 = (fa 5 : Int64) := e11
      refine lv_lsub hx hb dX4_missed_63 ?_
      have hP9 := hP.sub (ws' := [(o, .inr (4, [.ref o_met, .ref o_enough, .int (x_o 0)])), (o_met, .inl (kJ, 23, .inr (.inl fa)))]) [0, 1] rfl
      have hD9 := hD.sub (ws' := [(o, .inr (4, [.ref o_met, .ref o_enough, .int (x_o 0)])), (o_met, .inl (kJ, 23, .inr (.inl fa)))]) [0, 1] (by decide) rfl
      exact W.lret (v := 1000000000000 - (fa 5)) hx hb hr (fun t ht hW => ⟨⟨1000000000000 - (fa 5), (), rfl, by have h9 : i = k := (by omega); subst h9; rw [hf5], fa, by rw [ht]; exact hP9, hD9⟩, hS.F ht⟩) hS.2.2 dX4_missed_64
    | succ n ih =>
      intro i fa H locs ls hi hf0 hf1 hf2 hf3 hf4 hf5 hP hD hS hl
      refine lv_iload_n hx hb dX4_missed_25 rfl (lv_at hl 0 rfl) ?_
      refine lv_iload_n hx hb dX4_missed_26 rfl (lv_at hl 2 rfl) ?_
      refine lv_icmp_ge (tgt := 54) hx hb dX4_missed_27 (by decide) (fun c9 => absurd c9 (nI_ge (by omega) (by omega))) (fun _ => ?_)
      refine lv_aload_n hx hb dX4_missed_30 rfl (lv_at hl 1 rfl) ?_
      refine va_get (D := (dC, dI)) (ci := 4) (v := .ref o_met) (C := RX4) (T := TX4) (N := 3) hx hb hts hin4 hown hK hP 0 rfl rfl 0 (by decide) (hts (.fieldLink RX4 9 "PathProber$Odds" "met" "[J") (List.mem_of_getElem? (i := 1) (by decide +kernel))) (fun _ h9 => h9) rfl dX4_missed_31 ?_
      refine lv_iload_n hx hb dX4_missed_34 rfl (lv_at hl 3 rfl) ?_
      refine va_lald hx hb hK hP 1 2 rfl rfl (vp_in_nI (n := 5) (by decide) (by decide)) dX4_missed_35 ?_
      refine lv_topl (fun z12 e13 => ?_)
      obtain rfl : z12 = (fa 5 : Int64) := e13
      refine lv_ldc2 hx hb hown (hts (.constantLong RX4 23 (1000000000000)) (List.mem_of_getElem? (i := 2) (by decide +kernel))) dX4_missed_36 ?_
      refine W.lcmp hx hb dX4_missed_39 ?_
      refine lv_if_ge (tgt := 54) hx hb dX4_missed_40 (by decide) (fun c14 => ?_) (fun c14 => ?_)
      · refine lv_ldc2 hx hb hown (hts (.constantLong RX4 23 (1000000000000)) (List.mem_of_getElem? (i := 2) (by decide +kernel))) dX4_missed_54 ?_
        refine lv_aload_n hx hb dX4_missed_57 rfl (lv_at hl 1 rfl) ?_
        refine va_get (D := (dC, dI)) (ci := 4) (v := .ref o_met) (C := RX4) (T := TX4) (N := 3) hx hb hts hin4 hown hK hP 0 rfl rfl 0 (by decide) (hts (.fieldLink RX4 9 "PathProber$Odds" "met" "[J") (List.mem_of_getElem? (i := 1) (by decide +kernel))) (fun _ h9 => h9) rfl dX4_missed_58 ?_
        refine lv_iload_n hx hb dX4_missed_61 rfl (lv_at hl 3 rfl) ?_
        refine va_lald hx hb hK hP 1 2 rfl rfl (vp_in_nI (n := 5) (by decide) (by decide)) dX4_missed_62 ?_
        refine lv_topl (fun z15 e16 => ?_)
        obtain rfl : z15 = (fa 5 : Int64) := e16
        refine lv_lsub hx hb dX4_missed_63 ?_
        have hP9 := hP.sub (ws' := [(o, .inr (4, [.ref o_met, .ref o_enough, .int (x_o 0)])), (o_met, .inl (kJ, 23, .inr (.inl fa)))]) [0, 1] rfl
        have hD9 := hD.sub (ws' := [(o, .inr (4, [.ref o_met, .ref o_enough, .int (x_o 0)])), (o_met, .inl (kJ, 23, .inr (.inl fa)))]) [0, 1] (by decide) rfl
        exact W.lret (v := 1000000000000 - (fa 5)) hx hb hr (fun t ht hW => ⟨⟨1000000000000 - (fa 5), (), rfl, by have h9 := kn_cmp c14; rw [hf5] at h9; have h8 := kvq5 h9 (k - i) (by omega); rw [show i + (k - i) = k by omega] at h8; rw [hf5, h8], fa, by rw [ht]; exact hP9, hD9⟩, hS.F ht⟩) hS.2.2 dX4_missed_64
      · refine lv_aload_n hx hb dX4_missed_43 rfl (lv_at hl 1 rfl) ?_
        refine lv_iload_n hx hb dX4_missed_44 rfl (lv_at hl 3 rfl) ?_
        have hPc := hP.sub (ws' := [(o, .inr (4, [.ref o_met, .ref o_enough, .int (x_o 0)])), (o_met, .inl (kJ, 23, .inr (.inl fa)))]) [0, 1] rfl
        have hDc := hD.sub (ws' := [(o, .inr (4, [.ref o_met, .ref o_enough, .int (x_o 0)])), (o_met, .inl (kJ, 23, .inr (.inl fa)))]) [0, 1] (by decide) rfl
        have hFc := va_free (wc := [(o, .inr (4, [.ref o_met, .ref o_enough, .int (x_o 0)])), (o_met, .inl (kJ, 23, .inr (.inl fa)))]) hD hS hA [0, 1] rfl
        refine va_callv (va_runV (As := [.int 5]) (rest := []) ⟨hx, hb, hml, hown, hts⟩ (e4_sendNext_5 l dC dI kB kI kJ kZ kC kS H.size o o_met o_enough x_o fa) (cwV 1 hts gX4_missed_X4_sendNext rfl rfl rfl (by decide +kernel) ⟨Nat.le_of_ble_eq_true rfl, Nat.le_of_ble_eq_true rfl⟩) ⟨fun a U g mk q => by obtain ⟨q0, q1, qP, qE, qD⟩ := q; exact ⟨q0, q1, qP, kE_call qE, qD⟩, va_recv hK hP (ci := 4) (q0 := 0) rfl rfl, fun U hU hW => ⟨rfl, by rw [hU], by rw [hU]; exact hPc, kE_warm hW hE, hDc.weaken (fun _ _ _ _ => trivial)⟩⟩ rfl rfl hl.1 rfl (lv_room (Nat.le_of_ble_eq_true rfl)) dX4_missed_45 ⟨Nat.le_of_ble_eq_true rfl, Nat.le_of_ble_eq_true rfl⟩) hS (fun q _ h => hFc q h) hFc (fun u t H1 locs ht hvm w18 hB hz1 hk1 hS => ?_)
        obtain ⟨g_19, f20, f21, f22, f23, f24, f25, hP1, hD1⟩ := hB
        rw [ht] at hP1
        try dsimp only at w18
        obtain ⟨hP, hD⟩ := va_join (wr := []) (w1 := [(o, .inr (4, [.ref o_met, .ref o_enough, .int (x_o 0)])), (o_met, .inl (kJ, 23, .inr (.inl g_19)))]) hP hD [0, 1] [] rfl rfl (by decide) (by decide) hk1 hFc hP1 hD1
        generalize H1 = H at hP hS ⊢
        have hP : va_P (dC, dI) vwCl [(o, .inr (4, [.ref o_met, .ref o_enough, .int (x_o 0)])), (o_met, .inl (kJ, 23, .inr (.inl g_19)))] H := hP
        have hD : va_D A [(o, .inr (4, [.ref o_met, .ref o_enough, .int (x_o 0)])), (o_met, .inl (kJ, 23, .inr (.inl g_19)))] := hD
        refine W.widen (k := 0) (n := 0) (Nat.le_of_ble_eq_true rfl) (Nat.le_of_ble_eq_true rfl) ?_
        refine lv_iinc (v := nI (i + 1)) (lv' := [(3, .int (nI (i + 1))), (0, .ref o), (1, .int (nI k)), (2, .int 5)]) hx hb dX4_missed_48 hl (k := 0) rfl (nI_1 i) (by decide) rfl (fun ls hl => ?_)
        refine lv_goto (tgt := 25) hx hb dX4_missed_51 (by decide) ?_
        exact ih (i + 1) g_19 _ _ _ (by omega) (by rw [f20, hf0]; exact kvs5_0 i (by omega)) (by rw [f21, hf0, hf1]; exact kvs5_1 i (by omega)) (by rw [f22, hf1, hf2]; exact kvs5_2 i (by omega)) (by rw [f23, hf2, hf3]; exact kvs5_3 i (by omega)) (by rw [f24, hf3, hf4]; exact kvs5_4 i (by omega)) (by rw [f25, hf4, hf5]; exact kvs5_5 i (by omega)) (hP.sub [0, 1] rfl) (hD.sub [0, 1] (by decide) rfl) hS (lv_sub hl [0, 1, 2, 3] rfl)
  exact hloop25 k 0 g_3 _ _ _ (Nat.zero_add _) (f4) (f5) (f6) (f7) (f8) (f9) hP hD hS (lv_sub hl [0, 1, 2, 3] rfl)
def rm_e11_missingOf_1 : Room := { frames := 0, cells := 0, slots := 0, locals := 0 }
set_option maxHeartbeats 4000000 in
set_option maxRecDepth 100000 in
theorem e11_missingOf_1 (l : Launch) (dC : Nat → ClassId) (dI : Nat → Nat → Nat) (kB kI kJ kZ kC kS : ClassId) (sz : Nat) (m0 : Nat) (ra : Nat → Nat) (x0 : Nat → Int32) (k : Nat) (f1 : Nat → Int64) (hk : k ≤ 60) : Met l yX11_missingOf wsX11_missingOf rm_e11_missingOf_1 (va_Pc [.ref m0, .int (nI k), .int 1] (fun U => U.heap.size = sz ∧ va_P (dC, dI) vwCl [(m0, .inr (11, oX11 ra x0)), (ra 15, .inl (kJ, 24, .inr (.inl f1)))] U.heap ∧ kE dC dI kB kI kJ kZ kC kS U ∧ va_D (fun _ => True) [(m0, .inr (11, oX11 ra x0)), (ra 15, .inl (kJ, 24, .inr (.inl f1)))])) (va_Ql (fun (r : Int64) (_ : Unit) => r = 1000000000000 - kv1 k 1) (fun _ t => ∃ (g1 : Nat → Int64), va_P (dC, dI) vwCl [(m0, .inr (11, oX11 ra x0)), (ra 15, .inl (kJ, 24, .inr (.inl g1)))] t.heap ∧ va_D (va_A [(m0, .inr (11, oX11 ra x0)), (ra 15, .inl (kJ, 24, .inr (.inl f1)))] sz) [(m0, .inr (11, oX11 ra x0)), (ra 15, .inl (kJ, 24, .inr (.inl g1)))]) (va_A [(m0, .inr (11, oX11 ra x0)), (ra 15, .inl (kJ, 24, .inr (.inl f1)))] sz)) 0 0 (va_A [(m0, .inr (11, oX11 ra x0)), (ra 15, .inl (kJ, 24, .inr (.inl f1)))] sz) := by
  refine Met.ofW (cc := cX11_missingOf) (maxL := 7) (ret := (some .long)) (by decide) rfl ?_
  intro p e s m args0 below meth c s₁ B hml hv
  obtain ⟨hargs, hsz, hP, hE, hD0⟩ := hv
  have hx := B.exec
  have hb := B.bytes
  have hr := B.returns
  have hts := atoms_spec (ws := wsX11_missingOf) B.pre
  have hown : s.vm.findClass RX11 = some m.cls := findClass_of_methodNamed B.named
  have hlocks := B.notSynchronized
  have hK := hE.1
  have hin11 : ∀ w ∈ wsX110, w ∈ wsX11_missingOf := fun _ h9 => List.mem_cons_of_mem _ (List.mem_append_right _ h9)
  subst hsz
  have hD := hD0.self (sz := s.heap.size)
  generalize hAe : va_A [(m0, .inr (11, oX11 ra x0)), (ra 15, .inl (kJ, 24, .inr (.inl f1)))] s.heap.size = A at hD ⊢
  have hA : ∀ q : Nat, s.heap.size ≤ q → A q := fun q h => by rw [← hAe]; exact Or.inr h
  have hS : va_S A s.heap s.heap [] := va_S.rf
  have hP : va_P (dC, dI) vwCl [(m0, .inr (11, oX11 ra x0)), (ra 15, .inl (kJ, 24, .inr (.inl f1)))] s.heap := hP
  have hl := lv_entry ([.ref m0, .int (nI k), .int 1]) (n := 7) (Nat.le_of_ble_eq_true rfl)
  have hla : entryFrame m args0 7 = entryFrame m ([.ref m0, .int (nI k), .int 1] : List Value).toArray 7 := by rw [hargs]
  rw [hla, lg_entry_eq]
  generalize (lg_sl ([.ref m0, .int (nI k), .int 1]) ++ List.replicate (7 - (lg_sl ([.ref m0, .int (nI k), .int 1])).length) Slot.unset).toArray = ls at hl ⊢
  have hl : lv_has ls 7 [(0, .ref m0), (1, .int (nI k)), (2, .int 1)] := hl
  refine lv_iconst (v := 0) hx hb dX11_missingOf_0 (by decide) ?_
  refine lv_istore_n (lv' := [(3, .int 0), (0, .ref m0), (1, .int (nI k)), (2, .int 1)]) hx hb dX11_missingOf_1 rfl hl (by decide) rfl (fun ls hl => ?_)
  refine lv_iload_n hx hb dX11_missingOf_2 rfl (lv_at hl 0 rfl) ?_
  refine lv_iload_n hx hb dX11_missingOf_3 rfl (lv_at hl 3 rfl) ?_
  refine lv_icmp_gt (tgt := 30) hx hb dX11_missingOf_4 (by decide) (fun c9 => absurd c9 (by decide)) (fun _ => ?_)
  refine lv_aload_n hx hb dX11_missingOf_7 rfl (lv_at hl 1 rfl) ?_
  refine va_get (D := (dC, dI)) (ci := 11) (v := .ref (ra 15)) (C := RX11) (T := TX11) (N := 61) hx hb hts hin11 hown hK hP 0 rfl rfl 32 (by decide) (hts (.fieldLink RX11 79 "PathProberModel" "met" "[J") (List.mem_of_getElem? (i := 1) (by decide +kernel))) (fun _ h9 => h9) rfl dX11_missingOf_8 ?_
  refine lv_iload_n hx hb dX11_missingOf_11 rfl (lv_at hl 0 rfl) ?_
  refine lv_iload_n hx hb dX11_missingOf_12 rfl (lv_at hl 0 rfl) ?_
  refine lv_if_ne (tgt := 22) hx hb dX11_missingOf_13 (by decide) (fun c9 => absurd (by decide) c9) (fun _ => ?_)
  refine lv_ldc2 hx hb hown (hts (.constantLong RX11 320 (1000000000000)) (List.mem_of_getElem? (i := 2) (by decide +kernel))) dX11_missingOf_16 ?_
  refine lv_goto (tgt := 23) hx hb dX11_missingOf_19 (by decide) ?_
  refine va_last hx hb hK hP hD hS 1 2 rfl rfl (vp_in_nI (n := 0) (by decide) (by decide)) dX11_missingOf_23 (fun H locs hP hD hS => ?_)
  have hP : va_P (dC, dI) vwCl [(m0, .inr (11, oX11 ra x0)), (ra 15, .inl (kJ, 24, .inr (.inl (vp_updL f1 0 1000000000000))))] H := hP
  have hD : va_D A [(m0, .inr (11, oX11 ra x0)), (ra 15, .inl (kJ, 24, .inr (.inl (vp_updL f1 0 1000000000000))))] := hD
  refine lv_iinc (v := 1) (lv' := [(3, .int 1), (0, .ref m0), (1, .int (nI k)), (2, .int 1)]) hx hb dX11_missingOf_24 hl (k := 0) rfl (by decide) (by decide) rfl (fun ls hl => ?_)
  refine lv_goto (tgt := 2) hx hb dX11_missingOf_27 (by decide) ?_
  refine lv_iload_n hx hb dX11_missingOf_2 rfl (lv_at hl 0 rfl) ?_
  refine lv_iload_n hx hb dX11_missingOf_3 rfl (lv_at hl 3 rfl) ?_
  refine lv_icmp_gt (tgt := 30) hx hb dX11_missingOf_4 (by decide) (fun c9 => absurd c9 (by decide)) (fun _ => ?_)
  refine lv_aload_n hx hb dX11_missingOf_7 rfl (lv_at hl 1 rfl) ?_
  refine va_get (D := (dC, dI)) (ci := 11) (v := .ref (ra 15)) (C := RX11) (T := TX11) (N := 61) hx hb hts hin11 hown hK hP 0 rfl rfl 32 (by decide) (hts (.fieldLink RX11 79 "PathProberModel" "met" "[J") (List.mem_of_getElem? (i := 1) (by decide +kernel))) (fun _ h9 => h9) rfl dX11_missingOf_8 ?_
  refine lv_iload_n hx hb dX11_missingOf_11 rfl (lv_at hl 0 rfl) ?_
  refine lv_iload_n hx hb dX11_missingOf_12 rfl (lv_at hl 0 rfl) ?_
  refine lv_if_ne (tgt := 22) hx hb dX11_missingOf_13 (by decide) (fun _ => ?_) (fun c9 => absurd c9 (by decide))
  refine lv_lconst (v := 0) hx hb dX11_missingOf_22 (by decide) ?_
  refine va_last hx hb hK hP hD hS 1 2 rfl rfl (vp_in_nI (n := 1) (by decide) (by decide)) dX11_missingOf_23 (fun H locs hP hD hS => ?_)
  have hP : va_P (dC, dI) vwCl [(m0, .inr (11, oX11 ra x0)), (ra 15, .inl (kJ, 24, .inr (.inl (vp_updL (vp_updL f1 0 1000000000000) 1 0))))] H := hP
  have hD : va_D A [(m0, .inr (11, oX11 ra x0)), (ra 15, .inl (kJ, 24, .inr (.inl (vp_updL (vp_updL f1 0 1000000000000) 1 0))))] := hD
  refine lv_iinc (v := 2) (lv' := [(3, .int 2), (0, .ref m0), (1, .int (nI k)), (2, .int 1)]) hx hb dX11_missingOf_24 hl (k := 0) rfl (by decide) (by decide) rfl (fun ls hl => ?_)
  refine lv_goto (tgt := 2) hx hb dX11_missingOf_27 (by decide) ?_
  refine lv_iload_n hx hb dX11_missingOf_2 rfl (lv_at hl 0 rfl) ?_
  refine lv_iload_n hx hb dX11_missingOf_3 rfl (lv_at hl 3 rfl) ?_
  refine lv_icmp_gt (tgt := 30) hx hb dX11_missingOf_4 (by decide) (fun _ => ?_) (fun c9 => absurd (by decide) c9)
  refine lv_iconst (v := 0) hx hb dX11_missingOf_30 (by decide) ?_
  refine lv_istore_n (lv' := [(3, .int 0), (0, .ref m0), (1, .int (nI k)), (2, .int 1)]) hx hb dX11_missingOf_31 rfl hl (by decide) rfl (fun ls hl => ?_)
  have hloop32 : ∀ (n : Nat) (i : Nat) (fa : Nat → Int64) (H : Heap) (locs : List Loc) (ls : Array Slot), i + n = k → fa 0 = kv1 i 0 → fa 1 = kv1 i 1 → va_P (dC, dI) vwCl [(m0, .inr (11, oX11 ra x0)), (ra 15, .inl (kJ, 24, .inr (.inl fa)))] H → va_D A [(m0, .inr (11, oX11 ra x0)), (ra 15, .inl (kJ, 24, .inr (.inl fa)))] → va_S A s.heap H locs → lv_has ls 7 [(3, .int (nI i)), (0, .ref m0), (1, .int (nI k)), (2, .int 1)] → W p l e (headSpec wsX11_missingOf rm_e11_missingOf_1).room s m args0 below meth c H locs 0 0 (MQ below (va_Ql (fun (r : Int64) (_ : Unit) => r = 1000000000000 - kv1 k 1) (fun _ t => ∃ (g1 : Nat → Int64), va_P (dC, dI) vwCl [(m0, .inr (11, oX11 ra x0)), (ra 15, .inl (kJ, 24, .inr (.inl g1)))] t.heap ∧ va_D A [(m0, .inr (11, oX11 ra x0)), (ra 15, .inl (kJ, 24, .inr (.inl g1)))]) A) args0 s 0 0 A) (F0 m 32 ls []) := by
    intro n
    induction n with
    | zero =>
      intro i fa H locs ls hi hf0 hf1 hP hD hS hl
      refine lv_iload_n hx hb dX11_missingOf_32 rfl (lv_at hl 0 rfl) ?_
      refine lv_iload_n hx hb dX11_missingOf_33 rfl (lv_at hl 2 rfl) ?_
      refine lv_icmp_ge (tgt := 106) hx hb dX11_missingOf_34 (by decide) (fun _ => ?_) (fun c9 => absurd (nI_le (by omega) (by omega)) c9)
      refine lv_ldc2 hx hb hown (hts (.constantLong RX11 320 (1000000000000)) (List.mem_of_getElem? (i := 2) (by decide +kernel))) dX11_missingOf_106 ?_
      refine lv_aload_n hx hb dX11_missingOf_109 rfl (lv_at hl 1 rfl) ?_
      refine va_get (D := (dC, dI)) (ci := 11) (v := .ref (ra 15)) (C := RX11) (T := TX11) (N := 61) hx hb hts hin11 hown hK hP 0 rfl rfl 32 (by decide) (hts (.fieldLink RX11 79 "PathProberModel" "met" "[J") (List.mem_of_getElem? (i := 1) (by decide +kernel))) (fun _ h9 => h9) rfl dX11_missingOf_110 ?_
      refine lv_iload_n hx hb dX11_missingOf_113 rfl (lv_at hl 3 rfl) ?_
      refine va_lald hx hb hK hP 1 2 rfl rfl (vp_in_nI (n := 1) (by decide) (by decide)) dX11_missingOf_114 ?_
      refine lv_topl (fun z1 e2 => ?_)
      obtain rfl : z1 = (fa 1 : Int64) := e2
      refine lv_lsub hx hb dX11_missingOf_115 ?_
      have hP9 := hP.sub (ws' := [(m0, .inr (11, oX11 ra x0)), (ra 15, .inl (kJ, 24, .inr (.inl fa)))]) [0, 1] rfl
      have hD9 := hD.sub (ws' := [(m0, .inr (11, oX11 ra x0)), (ra 15, .inl (kJ, 24, .inr (.inl fa)))]) [0, 1] (by decide) rfl
      exact W.lret (v := 1000000000000 - (fa 1)) hx hb hr (fun t ht hW => ⟨⟨1000000000000 - (fa 1), (), rfl, by have h9 : i = k := (by omega); subst h9; rw [hf1], fa, by rw [ht]; exact hP9, hD9⟩, hS.F ht⟩) hS.2.2 dX11_missingOf_116
    | succ n ih =>
      intro i fa H locs ls hi hf0 hf1 hP hD hS hl
      refine lv_iload_n hx hb dX11_missingOf_32 rfl (lv_at hl 0 rfl) ?_
      refine lv_iload_n hx hb dX11_missingOf_33 rfl (lv_at hl 2 rfl) ?_
      refine lv_icmp_ge (tgt := 106) hx hb dX11_missingOf_34 (by decide) (fun c9 => absurd c9 (nI_ge (by omega) (by omega))) (fun _ => ?_)
      refine lv_iload_n hx hb dX11_missingOf_37 rfl (lv_at hl 3 rfl) ?_
      refine lv_iconst (v := 1) hx hb dX11_missingOf_38 (by decide) ?_
      refine lv_isub hx hb dX11_missingOf_39 ?_
      refine lv_topi (fun z3 e4 => ?_)
      obtain rfl : z3 = (0 : Int32) := e4.trans (by decide)
      refine lv_istore (lv' := [(4, .int 0), (3, .int (nI i)), (0, .ref m0), (1, .int (nI k)), (2, .int 1)]) hx hb dX11_missingOf_40 hl (by decide) rfl (fun ls hl => ?_)
      refine lv_iload hx hb dX11_missingOf_42 (lv_at hl 0 rfl) ?_
      refine lv_if_lt (tgt := 100) hx hb dX11_missingOf_44 (by decide) (fun c9 => absurd c9 (by decide)) (fun _ => ?_)
      refine lv_aload_n hx hb dX11_missingOf_47 rfl (lv_at hl 2 rfl) ?_
      refine va_get (D := (dC, dI)) (ci := 11) (v := .ref (ra 15)) (C := RX11) (T := TX11) (N := 61) hx hb hts hin11 hown hK hP 0 rfl rfl 32 (by decide) (hts (.fieldLink RX11 79 "PathProberModel" "met" "[J") (List.mem_of_getElem? (i := 1) (by decide +kernel))) (fun _ h9 => h9) rfl dX11_missingOf_48 ?_
      refine lv_iload hx hb dX11_missingOf_51 (lv_at hl 0 rfl) ?_
      refine va_lald hx hb hK hP 1 2 rfl rfl (vp_in_nI (n := 0) (by decide) (by decide)) dX11_missingOf_53 ?_
      refine lv_topl (fun z5 e6 => ?_)
      obtain rfl : z5 = (fa 0 : Int64) := e6
      refine lv_iload hx hb dX11_missingOf_54 (lv_at hl 0 rfl) ?_
      refine lv_i2l (v := 0) hx hb dX11_missingOf_56 (by decide) ?_
      refine lv_lmul hx hb dX11_missingOf_57 ?_
      refine lv_iload_n hx hb dX11_missingOf_58 rfl (lv_at hl 4 rfl) ?_
      refine lv_i2l (v := 1) hx hb dX11_missingOf_59 (by decide) ?_
      refine lv_ldiv hx hb dX11_missingOf_60 (by decide) ?_
      refine lv_lstore (lv' := [(5, .long (((fa 0) * 0) / 1)), (4, .int 0), (3, .int (nI i)), (0, .ref m0), (1, .int (nI k)), (2, .int 1)]) hx hb dX11_missingOf_61 hl (by decide) rfl (fun ls hl => ?_)
      refine lv_aload_n hx hb dX11_missingOf_63 rfl (lv_at hl 3 rfl) ?_
      refine va_get (D := (dC, dI)) (ci := 11) (v := .ref (ra 15)) (C := RX11) (T := TX11) (N := 61) hx hb hts hin11 hown hK hP 0 rfl rfl 32 (by decide) (hts (.fieldLink RX11 79 "PathProberModel" "met" "[J") (List.mem_of_getElem? (i := 1) (by decide +kernel))) (fun _ h9 => h9) rfl dX11_missingOf_64 ?_
      refine lv_iload hx hb dX11_missingOf_67 (lv_at hl 1 rfl) ?_
      refine lv_iconst (v := 1) hx hb dX11_missingOf_69 (by decide) ?_
      refine lv_iadd hx hb dX11_missingOf_70 ?_
      refine lv_topi (fun z7 e8 => ?_)
      obtain rfl : z7 = (1 : Int32) := e8.trans (by decide)
      refine lv_dup2_11 hx hb dX11_missingOf_71 rfl rfl ?_
      refine va_lald hx hb hK hP 1 2 rfl rfl (vp_in_nI (n := 1) (by decide) (by decide)) dX11_missingOf_72 ?_
      refine lv_topl (fun z9 e10 => ?_)
      obtain rfl : z9 = (fa 1 : Int64) := e10
      refine lv_aload_n hx hb dX11_missingOf_73 rfl (lv_at hl 3 rfl) ?_
      refine va_get (D := (dC, dI)) (ci := 11) (v := .ref (ra 15)) (C := RX11) (T := TX11) (N := 61) hx hb hts hin11 hown hK hP 0 rfl rfl 32 (by decide) (hts (.fieldLink RX11 79 "PathProberModel" "met" "[J") (List.mem_of_getElem? (i := 1) (by decide +kernel))) (fun _ h9 => h9) rfl dX11_missingOf_74 ?_
      refine lv_iload hx hb dX11_missingOf_77 (lv_at hl 1 rfl) ?_
      refine va_lald hx hb hK hP 1 2 rfl rfl (vp_in_nI (n := 0) (by decide) (by decide)) dX11_missingOf_79 ?_
      refine lv_topl (fun z11 e12 => ?_)
      obtain rfl : z11 = (fa 0 : Int64) := e12
      refine lv_lload hx hb dX11_missingOf_80 (lv_at hl 0 rfl) ?_
      refine lv_lsub hx hb dX11_missingOf_82 ?_
      refine lv_ladd hx hb dX11_missingOf_83 ?_
      refine va_last hx hb hK hP hD hS 1 2 rfl rfl (vp_in_nI (n := 1) (by decide) (by decide)) dX11_missingOf_84 (fun H locs hP hD hS => ?_)
      have hP : va_P (dC, dI) vwCl [(m0, .inr (11, oX11 ra x0)), (ra 15, .inl (kJ, 24, .inr (.inl (vp_updL fa 1 ((fa 1) + ((fa 0) - (((fa 0) * 0) / 1)))))))] H := hP
      have hD : va_D A [(m0, .inr (11, oX11 ra x0)), (ra 15, .inl (kJ, 24, .inr (.inl (vp_updL fa 1 ((fa 1) + ((fa 0) - (((fa 0) * 0) / 1)))))))] := hD
      refine lv_aload_n hx hb dX11_missingOf_85 rfl (lv_at hl 3 rfl) ?_
      refine va_get (D := (dC, dI)) (ci := 11) (v := .ref (ra 15)) (C := RX11) (T := TX11) (N := 61) hx hb hts hin11 hown hK hP 0 rfl rfl 32 (by decide) (hts (.fieldLink RX11 79 "PathProberModel" "met" "[J") (List.mem_of_getElem? (i := 1) (by decide +kernel))) (fun _ h9 => h9) rfl dX11_missingOf_86 ?_
      refine lv_iload hx hb dX11_missingOf_89 (lv_at hl 1 rfl) ?_
      refine lv_lload hx hb dX11_missingOf_91 (lv_at hl 0 rfl) ?_
      refine va_last hx hb hK hP hD hS 1 2 rfl rfl (vp_in_nI (n := 0) (by decide) (by decide)) dX11_missingOf_93 (fun H locs hP hD hS => ?_)
      have hP : va_P (dC, dI) vwCl [(m0, .inr (11, oX11 ra x0)), (ra 15, .inl (kJ, 24, .inr (.inl (vp_updL (vp_updL fa 1 ((fa 1) + ((fa 0) - (((fa 0) * 0) / 1)))) 0 (((fa 0) * 0) / 1)))))] H := hP
      have hD : va_D A [(m0, .inr (11, oX11 ra x0)), (ra 15, .inl (kJ, 24, .inr (.inl (vp_updL (vp_updL fa 1 ((fa 1) + ((fa 0) - (((fa 0) * 0) / 1)))) 0 (((fa 0) * 0) / 1)))))] := hD
      refine lv_iinc (v := (-1)) (lv' := [(4, .int (-1)), (5, .long (((fa 0) * 0) / 1)), (3, .int (nI i)), (0, .ref m0), (1, .int (nI k)), (2, .int 1)]) hx hb dX11_missingOf_94 hl (k := 1) rfl (by decide) (by decide) rfl (fun ls hl => ?_)
      refine lv_goto (tgt := 42) hx hb dX11_missingOf_97 (by decide) ?_
      refine lv_iload hx hb dX11_missingOf_42 (lv_at hl 0 rfl) ?_
      refine lv_if_lt (tgt := 100) hx hb dX11_missingOf_44 (by decide) (fun _ => ?_) (fun c9 => absurd (by decide) c9)
      refine lv_iinc (v := nI (i + 1)) (lv' := [(3, .int (nI (i + 1))), (4, .int (-1)), (5, .long (((fa 0) * 0) / 1)), (0, .ref m0), (1, .int (nI k)), (2, .int 1)]) hx hb dX11_missingOf_100 hl (k := 2) rfl (nI_1 i) (by decide) rfl (fun ls hl => ?_)
      refine lv_goto (tgt := 32) hx hb dX11_missingOf_103 (by decide) ?_
      exact ih (i + 1) (vp_updL (vp_updL fa 1 ((fa 1) + ((fa 0) - (((fa 0) * 0) / 1)))) 0 (((fa 0) * 0) / 1)) _ _ _ (by omega) (Eq.trans (show ((vp_updL (vp_updL fa 1 ((fa 1) + ((fa 0) - (((fa 0) * 0) / 1)))) 0 (((fa 0) * 0) / 1))) 0 = fa 0 * 0 / 1 from rfl) (by rw [hf0]; exact kvs1_0 i (by omega))) (Eq.trans (show ((vp_updL (vp_updL fa 1 ((fa 1) + ((fa 0) - (((fa 0) * 0) / 1)))) 0 (((fa 0) * 0) / 1))) 1 = fa 1 + (fa 0 - fa 0 * 0 / 1) from rfl) (by rw [hf0, hf1]; exact kvs1_1 i (by omega))) (hP.sub [0, 1] rfl) (hD.sub [0, 1] (by decide) rfl) hS (lv_sub hl [0, 3, 4, 5] rfl)
  exact hloop32 k 0 (vp_updL (vp_updL f1 0 1000000000000) 1 0) _ _ _ (Nat.zero_add _) (rfl) (rfl) hP hD hS (lv_sub hl [0, 1, 2, 3] rfl)
def rm_e11_missingOf_2 : Room := { frames := 0, cells := 0, slots := 0, locals := 0 }
set_option maxHeartbeats 4000000 in
set_option maxRecDepth 100000 in
theorem e11_missingOf_2 (l : Launch) (dC : Nat → ClassId) (dI : Nat → Nat → Nat) (kB kI kJ kZ kC kS : ClassId) (sz : Nat) (m0 : Nat) (ra : Nat → Nat) (x0 : Nat → Int32) (k : Nat) (f1 : Nat → Int64) (hk : k ≤ 60) : Met l yX11_missingOf wsX11_missingOf rm_e11_missingOf_2 (va_Pc [.ref m0, .int (nI k), .int 2] (fun U => U.heap.size = sz ∧ va_P (dC, dI) vwCl [(m0, .inr (11, oX11 ra x0)), (ra 15, .inl (kJ, 24, .inr (.inl f1)))] U.heap ∧ kE dC dI kB kI kJ kZ kC kS U ∧ va_D (fun _ => True) [(m0, .inr (11, oX11 ra x0)), (ra 15, .inl (kJ, 24, .inr (.inl f1)))])) (va_Ql (fun (r : Int64) (_ : Unit) => r = 1000000000000 - kv2 k 2) (fun _ t => ∃ (g1 : Nat → Int64), va_P (dC, dI) vwCl [(m0, .inr (11, oX11 ra x0)), (ra 15, .inl (kJ, 24, .inr (.inl g1)))] t.heap ∧ va_D (va_A [(m0, .inr (11, oX11 ra x0)), (ra 15, .inl (kJ, 24, .inr (.inl f1)))] sz) [(m0, .inr (11, oX11 ra x0)), (ra 15, .inl (kJ, 24, .inr (.inl g1)))]) (va_A [(m0, .inr (11, oX11 ra x0)), (ra 15, .inl (kJ, 24, .inr (.inl f1)))] sz)) 0 0 (va_A [(m0, .inr (11, oX11 ra x0)), (ra 15, .inl (kJ, 24, .inr (.inl f1)))] sz) := by
  refine Met.ofW (cc := cX11_missingOf) (maxL := 7) (ret := (some .long)) (by decide) rfl ?_
  intro p e s m args0 below meth c s₁ B hml hv
  obtain ⟨hargs, hsz, hP, hE, hD0⟩ := hv
  have hx := B.exec
  have hb := B.bytes
  have hr := B.returns
  have hts := atoms_spec (ws := wsX11_missingOf) B.pre
  have hown : s.vm.findClass RX11 = some m.cls := findClass_of_methodNamed B.named
  have hlocks := B.notSynchronized
  have hK := hE.1
  have hin11 : ∀ w ∈ wsX110, w ∈ wsX11_missingOf := fun _ h9 => List.mem_cons_of_mem _ (List.mem_append_right _ h9)
  subst hsz
  have hD := hD0.self (sz := s.heap.size)
  generalize hAe : va_A [(m0, .inr (11, oX11 ra x0)), (ra 15, .inl (kJ, 24, .inr (.inl f1)))] s.heap.size = A at hD ⊢
  have hA : ∀ q : Nat, s.heap.size ≤ q → A q := fun q h => by rw [← hAe]; exact Or.inr h
  have hS : va_S A s.heap s.heap [] := va_S.rf
  have hP : va_P (dC, dI) vwCl [(m0, .inr (11, oX11 ra x0)), (ra 15, .inl (kJ, 24, .inr (.inl f1)))] s.heap := hP
  have hl := lv_entry ([.ref m0, .int (nI k), .int 2]) (n := 7) (Nat.le_of_ble_eq_true rfl)
  have hla : entryFrame m args0 7 = entryFrame m ([.ref m0, .int (nI k), .int 2] : List Value).toArray 7 := by rw [hargs]
  rw [hla, lg_entry_eq]
  generalize (lg_sl ([.ref m0, .int (nI k), .int 2]) ++ List.replicate (7 - (lg_sl ([.ref m0, .int (nI k), .int 2])).length) Slot.unset).toArray = ls at hl ⊢
  have hl : lv_has ls 7 [(0, .ref m0), (1, .int (nI k)), (2, .int 2)] := hl
  refine lv_iconst (v := 0) hx hb dX11_missingOf_0 (by decide) ?_
  refine lv_istore_n (lv' := [(3, .int 0), (0, .ref m0), (1, .int (nI k)), (2, .int 2)]) hx hb dX11_missingOf_1 rfl hl (by decide) rfl (fun ls hl => ?_)
  refine lv_iload_n hx hb dX11_missingOf_2 rfl (lv_at hl 0 rfl) ?_
  refine lv_iload_n hx hb dX11_missingOf_3 rfl (lv_at hl 3 rfl) ?_
  refine lv_icmp_gt (tgt := 30) hx hb dX11_missingOf_4 (by decide) (fun c9 => absurd c9 (by decide)) (fun _ => ?_)
  refine lv_aload_n hx hb dX11_missingOf_7 rfl (lv_at hl 1 rfl) ?_
  refine va_get (D := (dC, dI)) (ci := 11) (v := .ref (ra 15)) (C := RX11) (T := TX11) (N := 61) hx hb hts hin11 hown hK hP 0 rfl rfl 32 (by decide) (hts (.fieldLink RX11 79 "PathProberModel" "met" "[J") (List.mem_of_getElem? (i := 1) (by decide +kernel))) (fun _ h9 => h9) rfl dX11_missingOf_8 ?_
  refine lv_iload_n hx hb dX11_missingOf_11 rfl (lv_at hl 0 rfl) ?_
  refine lv_iload_n hx hb dX11_missingOf_12 rfl (lv_at hl 0 rfl) ?_
  refine lv_if_ne (tgt := 22) hx hb dX11_missingOf_13 (by decide) (fun c9 => absurd (by decide) c9) (fun _ => ?_)
  refine lv_ldc2 hx hb hown (hts (.constantLong RX11 320 (1000000000000)) (List.mem_of_getElem? (i := 2) (by decide +kernel))) dX11_missingOf_16 ?_
  refine lv_goto (tgt := 23) hx hb dX11_missingOf_19 (by decide) ?_
  refine va_last hx hb hK hP hD hS 1 2 rfl rfl (vp_in_nI (n := 0) (by decide) (by decide)) dX11_missingOf_23 (fun H locs hP hD hS => ?_)
  have hP : va_P (dC, dI) vwCl [(m0, .inr (11, oX11 ra x0)), (ra 15, .inl (kJ, 24, .inr (.inl (vp_updL f1 0 1000000000000))))] H := hP
  have hD : va_D A [(m0, .inr (11, oX11 ra x0)), (ra 15, .inl (kJ, 24, .inr (.inl (vp_updL f1 0 1000000000000))))] := hD
  refine lv_iinc (v := 1) (lv' := [(3, .int 1), (0, .ref m0), (1, .int (nI k)), (2, .int 2)]) hx hb dX11_missingOf_24 hl (k := 0) rfl (by decide) (by decide) rfl (fun ls hl => ?_)
  refine lv_goto (tgt := 2) hx hb dX11_missingOf_27 (by decide) ?_
  refine lv_iload_n hx hb dX11_missingOf_2 rfl (lv_at hl 0 rfl) ?_
  refine lv_iload_n hx hb dX11_missingOf_3 rfl (lv_at hl 3 rfl) ?_
  refine lv_icmp_gt (tgt := 30) hx hb dX11_missingOf_4 (by decide) (fun c9 => absurd c9 (by decide)) (fun _ => ?_)
  refine lv_aload_n hx hb dX11_missingOf_7 rfl (lv_at hl 1 rfl) ?_
  refine va_get (D := (dC, dI)) (ci := 11) (v := .ref (ra 15)) (C := RX11) (T := TX11) (N := 61) hx hb hts hin11 hown hK hP 0 rfl rfl 32 (by decide) (hts (.fieldLink RX11 79 "PathProberModel" "met" "[J") (List.mem_of_getElem? (i := 1) (by decide +kernel))) (fun _ h9 => h9) rfl dX11_missingOf_8 ?_
  refine lv_iload_n hx hb dX11_missingOf_11 rfl (lv_at hl 0 rfl) ?_
  refine lv_iload_n hx hb dX11_missingOf_12 rfl (lv_at hl 0 rfl) ?_
  refine lv_if_ne (tgt := 22) hx hb dX11_missingOf_13 (by decide) (fun _ => ?_) (fun c9 => absurd c9 (by decide))
  refine lv_lconst (v := 0) hx hb dX11_missingOf_22 (by decide) ?_
  refine va_last hx hb hK hP hD hS 1 2 rfl rfl (vp_in_nI (n := 1) (by decide) (by decide)) dX11_missingOf_23 (fun H locs hP hD hS => ?_)
  have hP : va_P (dC, dI) vwCl [(m0, .inr (11, oX11 ra x0)), (ra 15, .inl (kJ, 24, .inr (.inl (vp_updL (vp_updL f1 0 1000000000000) 1 0))))] H := hP
  have hD : va_D A [(m0, .inr (11, oX11 ra x0)), (ra 15, .inl (kJ, 24, .inr (.inl (vp_updL (vp_updL f1 0 1000000000000) 1 0))))] := hD
  refine lv_iinc (v := 2) (lv' := [(3, .int 2), (0, .ref m0), (1, .int (nI k)), (2, .int 2)]) hx hb dX11_missingOf_24 hl (k := 0) rfl (by decide) (by decide) rfl (fun ls hl => ?_)
  refine lv_goto (tgt := 2) hx hb dX11_missingOf_27 (by decide) ?_
  refine lv_iload_n hx hb dX11_missingOf_2 rfl (lv_at hl 0 rfl) ?_
  refine lv_iload_n hx hb dX11_missingOf_3 rfl (lv_at hl 3 rfl) ?_
  refine lv_icmp_gt (tgt := 30) hx hb dX11_missingOf_4 (by decide) (fun c9 => absurd c9 (by decide)) (fun _ => ?_)
  refine lv_aload_n hx hb dX11_missingOf_7 rfl (lv_at hl 1 rfl) ?_
  refine va_get (D := (dC, dI)) (ci := 11) (v := .ref (ra 15)) (C := RX11) (T := TX11) (N := 61) hx hb hts hin11 hown hK hP 0 rfl rfl 32 (by decide) (hts (.fieldLink RX11 79 "PathProberModel" "met" "[J") (List.mem_of_getElem? (i := 1) (by decide +kernel))) (fun _ h9 => h9) rfl dX11_missingOf_8 ?_
  refine lv_iload_n hx hb dX11_missingOf_11 rfl (lv_at hl 0 rfl) ?_
  refine lv_iload_n hx hb dX11_missingOf_12 rfl (lv_at hl 0 rfl) ?_
  refine lv_if_ne (tgt := 22) hx hb dX11_missingOf_13 (by decide) (fun _ => ?_) (fun c9 => absurd c9 (by decide))
  refine lv_lconst (v := 0) hx hb dX11_missingOf_22 (by decide) ?_
  refine va_last hx hb hK hP hD hS 1 2 rfl rfl (vp_in_nI (n := 2) (by decide) (by decide)) dX11_missingOf_23 (fun H locs hP hD hS => ?_)
  have hP : va_P (dC, dI) vwCl [(m0, .inr (11, oX11 ra x0)), (ra 15, .inl (kJ, 24, .inr (.inl (vp_updL (vp_updL (vp_updL f1 0 1000000000000) 1 0) 2 0))))] H := hP
  have hD : va_D A [(m0, .inr (11, oX11 ra x0)), (ra 15, .inl (kJ, 24, .inr (.inl (vp_updL (vp_updL (vp_updL f1 0 1000000000000) 1 0) 2 0))))] := hD
  refine lv_iinc (v := 3) (lv' := [(3, .int 3), (0, .ref m0), (1, .int (nI k)), (2, .int 2)]) hx hb dX11_missingOf_24 hl (k := 0) rfl (by decide) (by decide) rfl (fun ls hl => ?_)
  refine lv_goto (tgt := 2) hx hb dX11_missingOf_27 (by decide) ?_
  refine lv_iload_n hx hb dX11_missingOf_2 rfl (lv_at hl 0 rfl) ?_
  refine lv_iload_n hx hb dX11_missingOf_3 rfl (lv_at hl 3 rfl) ?_
  refine lv_icmp_gt (tgt := 30) hx hb dX11_missingOf_4 (by decide) (fun _ => ?_) (fun c9 => absurd (by decide) c9)
  refine lv_iconst (v := 0) hx hb dX11_missingOf_30 (by decide) ?_
  refine lv_istore_n (lv' := [(3, .int 0), (0, .ref m0), (1, .int (nI k)), (2, .int 2)]) hx hb dX11_missingOf_31 rfl hl (by decide) rfl (fun ls hl => ?_)
  have hloop32 : ∀ (n : Nat) (i : Nat) (fa : Nat → Int64) (H : Heap) (locs : List Loc) (ls : Array Slot), i + n = k → fa 0 = kv2 i 0 → fa 1 = kv2 i 1 → fa 2 = kv2 i 2 → va_P (dC, dI) vwCl [(m0, .inr (11, oX11 ra x0)), (ra 15, .inl (kJ, 24, .inr (.inl fa)))] H → va_D A [(m0, .inr (11, oX11 ra x0)), (ra 15, .inl (kJ, 24, .inr (.inl fa)))] → va_S A s.heap H locs → lv_has ls 7 [(3, .int (nI i)), (0, .ref m0), (1, .int (nI k)), (2, .int 2)] → W p l e (headSpec wsX11_missingOf rm_e11_missingOf_2).room s m args0 below meth c H locs 0 0 (MQ below (va_Ql (fun (r : Int64) (_ : Unit) => r = 1000000000000 - kv2 k 2) (fun _ t => ∃ (g1 : Nat → Int64), va_P (dC, dI) vwCl [(m0, .inr (11, oX11 ra x0)), (ra 15, .inl (kJ, 24, .inr (.inl g1)))] t.heap ∧ va_D A [(m0, .inr (11, oX11 ra x0)), (ra 15, .inl (kJ, 24, .inr (.inl g1)))]) A) args0 s 0 0 A) (F0 m 32 ls []) := by
    intro n
    induction n with
    | zero =>
      intro i fa H locs ls hi hf0 hf1 hf2 hP hD hS hl
      refine lv_iload_n hx hb dX11_missingOf_32 rfl (lv_at hl 0 rfl) ?_
      refine lv_iload_n hx hb dX11_missingOf_33 rfl (lv_at hl 2 rfl) ?_
      refine lv_icmp_ge (tgt := 106) hx hb dX11_missingOf_34 (by decide) (fun _ => ?_) (fun c9 => absurd (nI_le (by omega) (by omega)) c9)
      refine lv_ldc2 hx hb hown (hts (.constantLong RX11 320 (1000000000000)) (List.mem_of_getElem? (i := 2) (by decide +kernel))) dX11_missingOf_106 ?_
      refine lv_aload_n hx hb dX11_missingOf_109 rfl (lv_at hl 1 rfl) ?_
      refine va_get (D := (dC, dI)) (ci := 11) (v := .ref (ra 15)) (C := RX11) (T := TX11) (N := 61) hx hb hts hin11 hown hK hP 0 rfl rfl 32 (by decide) (hts (.fieldLink RX11 79 "PathProberModel" "met" "[J") (List.mem_of_getElem? (i := 1) (by decide +kernel))) (fun _ h9 => h9) rfl dX11_missingOf_110 ?_
      refine lv_iload_n hx hb dX11_missingOf_113 rfl (lv_at hl 3 rfl) ?_
      refine va_lald hx hb hK hP 1 2 rfl rfl (vp_in_nI (n := 2) (by decide) (by decide)) dX11_missingOf_114 ?_
      refine lv_topl (fun z1 e2 => ?_)
      obtain rfl : z1 = (fa 2 : Int64) := e2
      refine lv_lsub hx hb dX11_missingOf_115 ?_
      have hP9 := hP.sub (ws' := [(m0, .inr (11, oX11 ra x0)), (ra 15, .inl (kJ, 24, .inr (.inl fa)))]) [0, 1] rfl
      have hD9 := hD.sub (ws' := [(m0, .inr (11, oX11 ra x0)), (ra 15, .inl (kJ, 24, .inr (.inl fa)))]) [0, 1] (by decide) rfl
      exact W.lret (v := 1000000000000 - (fa 2)) hx hb hr (fun t ht hW => ⟨⟨1000000000000 - (fa 2), (), rfl, by have h9 : i = k := (by omega); subst h9; rw [hf2], fa, by rw [ht]; exact hP9, hD9⟩, hS.F ht⟩) hS.2.2 dX11_missingOf_116
    | succ n ih =>
      intro i fa H locs ls hi hf0 hf1 hf2 hP hD hS hl
      refine lv_iload_n hx hb dX11_missingOf_32 rfl (lv_at hl 0 rfl) ?_
      refine lv_iload_n hx hb dX11_missingOf_33 rfl (lv_at hl 2 rfl) ?_
      refine lv_icmp_ge (tgt := 106) hx hb dX11_missingOf_34 (by decide) (fun c9 => absurd c9 (nI_ge (by omega) (by omega))) (fun _ => ?_)
      refine lv_iload_n hx hb dX11_missingOf_37 rfl (lv_at hl 3 rfl) ?_
      refine lv_iconst (v := 1) hx hb dX11_missingOf_38 (by decide) ?_
      refine lv_isub hx hb dX11_missingOf_39 ?_
      refine lv_topi (fun z3 e4 => ?_)
      obtain rfl : z3 = (1 : Int32) := e4.trans (by decide)
      refine lv_istore (lv' := [(4, .int 1), (3, .int (nI i)), (0, .ref m0), (1, .int (nI k)), (2, .int 2)]) hx hb dX11_missingOf_40 hl (by decide) rfl (fun ls hl => ?_)
      refine lv_iload hx hb dX11_missingOf_42 (lv_at hl 0 rfl) ?_
      refine lv_if_lt (tgt := 100) hx hb dX11_missingOf_44 (by decide) (fun c9 => absurd c9 (by decide)) (fun _ => ?_)
      refine lv_aload_n hx hb dX11_missingOf_47 rfl (lv_at hl 2 rfl) ?_
      refine va_get (D := (dC, dI)) (ci := 11) (v := .ref (ra 15)) (C := RX11) (T := TX11) (N := 61) hx hb hts hin11 hown hK hP 0 rfl rfl 32 (by decide) (hts (.fieldLink RX11 79 "PathProberModel" "met" "[J") (List.mem_of_getElem? (i := 1) (by decide +kernel))) (fun _ h9 => h9) rfl dX11_missingOf_48 ?_
      refine lv_iload hx hb dX11_missingOf_51 (lv_at hl 0 rfl) ?_
      refine va_lald hx hb hK hP 1 2 rfl rfl (vp_in_nI (n := 1) (by decide) (by decide)) dX11_missingOf_53 ?_
      refine lv_topl (fun z5 e6 => ?_)
      obtain rfl : z5 = (fa 1 : Int64) := e6
      refine lv_iload hx hb dX11_missingOf_54 (lv_at hl 0 rfl) ?_
      refine lv_i2l (v := 1) hx hb dX11_missingOf_56 (by decide) ?_
      refine lv_lmul hx hb dX11_missingOf_57 ?_
      refine lv_iload_n hx hb dX11_missingOf_58 rfl (lv_at hl 4 rfl) ?_
      refine lv_i2l (v := 2) hx hb dX11_missingOf_59 (by decide) ?_
      refine lv_ldiv hx hb dX11_missingOf_60 (by decide) ?_
      refine lv_lstore (lv' := [(5, .long (((fa 1) * 1) / 2)), (4, .int 1), (3, .int (nI i)), (0, .ref m0), (1, .int (nI k)), (2, .int 2)]) hx hb dX11_missingOf_61 hl (by decide) rfl (fun ls hl => ?_)
      refine lv_aload_n hx hb dX11_missingOf_63 rfl (lv_at hl 3 rfl) ?_
      refine va_get (D := (dC, dI)) (ci := 11) (v := .ref (ra 15)) (C := RX11) (T := TX11) (N := 61) hx hb hts hin11 hown hK hP 0 rfl rfl 32 (by decide) (hts (.fieldLink RX11 79 "PathProberModel" "met" "[J") (List.mem_of_getElem? (i := 1) (by decide +kernel))) (fun _ h9 => h9) rfl dX11_missingOf_64 ?_
      refine lv_iload hx hb dX11_missingOf_67 (lv_at hl 1 rfl) ?_
      refine lv_iconst (v := 1) hx hb dX11_missingOf_69 (by decide) ?_
      refine lv_iadd hx hb dX11_missingOf_70 ?_
      refine lv_topi (fun z7 e8 => ?_)
      obtain rfl : z7 = (2 : Int32) := e8.trans (by decide)
      refine lv_dup2_11 hx hb dX11_missingOf_71 rfl rfl ?_
      refine va_lald hx hb hK hP 1 2 rfl rfl (vp_in_nI (n := 2) (by decide) (by decide)) dX11_missingOf_72 ?_
      refine lv_topl (fun z9 e10 => ?_)
      obtain rfl : z9 = (fa 2 : Int64) := e10
      refine lv_aload_n hx hb dX11_missingOf_73 rfl (lv_at hl 3 rfl) ?_
      refine va_get (D := (dC, dI)) (ci := 11) (v := .ref (ra 15)) (C := RX11) (T := TX11) (N := 61) hx hb hts hin11 hown hK hP 0 rfl rfl 32 (by decide) (hts (.fieldLink RX11 79 "PathProberModel" "met" "[J") (List.mem_of_getElem? (i := 1) (by decide +kernel))) (fun _ h9 => h9) rfl dX11_missingOf_74 ?_
      refine lv_iload hx hb dX11_missingOf_77 (lv_at hl 1 rfl) ?_
      refine va_lald hx hb hK hP 1 2 rfl rfl (vp_in_nI (n := 1) (by decide) (by decide)) dX11_missingOf_79 ?_
      refine lv_topl (fun z11 e12 => ?_)
      obtain rfl : z11 = (fa 1 : Int64) := e12
      refine lv_lload hx hb dX11_missingOf_80 (lv_at hl 0 rfl) ?_
      refine lv_lsub hx hb dX11_missingOf_82 ?_
      refine lv_ladd hx hb dX11_missingOf_83 ?_
      refine va_last hx hb hK hP hD hS 1 2 rfl rfl (vp_in_nI (n := 2) (by decide) (by decide)) dX11_missingOf_84 (fun H locs hP hD hS => ?_)
      have hP : va_P (dC, dI) vwCl [(m0, .inr (11, oX11 ra x0)), (ra 15, .inl (kJ, 24, .inr (.inl (vp_updL fa 2 ((fa 2) + ((fa 1) - (((fa 1) * 1) / 2)))))))] H := hP
      have hD : va_D A [(m0, .inr (11, oX11 ra x0)), (ra 15, .inl (kJ, 24, .inr (.inl (vp_updL fa 2 ((fa 2) + ((fa 1) - (((fa 1) * 1) / 2)))))))] := hD
      refine lv_aload_n hx hb dX11_missingOf_85 rfl (lv_at hl 3 rfl) ?_
      refine va_get (D := (dC, dI)) (ci := 11) (v := .ref (ra 15)) (C := RX11) (T := TX11) (N := 61) hx hb hts hin11 hown hK hP 0 rfl rfl 32 (by decide) (hts (.fieldLink RX11 79 "PathProberModel" "met" "[J") (List.mem_of_getElem? (i := 1) (by decide +kernel))) (fun _ h9 => h9) rfl dX11_missingOf_86 ?_
      refine lv_iload hx hb dX11_missingOf_89 (lv_at hl 1 rfl) ?_
      refine lv_lload hx hb dX11_missingOf_91 (lv_at hl 0 rfl) ?_
      refine va_last hx hb hK hP hD hS 1 2 rfl rfl (vp_in_nI (n := 1) (by decide) (by decide)) dX11_missingOf_93 (fun H locs hP hD hS => ?_)
      have hP : va_P (dC, dI) vwCl [(m0, .inr (11, oX11 ra x0)), (ra 15, .inl (kJ, 24, .inr (.inl (vp_updL (vp_updL fa 2 ((fa 2) + ((fa 1) - (((fa 1) * 1) / 2)))) 1 (((fa 1) * 1) / 2)))))] H := hP
      have hD : va_D A [(m0, .inr (11, oX11 ra x0)), (ra 15, .inl (kJ, 24, .inr (.inl (vp_updL (vp_updL fa 2 ((fa 2) + ((fa 1) - (((fa 1) * 1) / 2)))) 1 (((fa 1) * 1) / 2)))))] := hD
      refine lv_iinc (v := 0) (lv' := [(4, .int 0), (5, .long (((fa 1) * 1) / 2)), (3, .int (nI i)), (0, .ref m0), (1, .int (nI k)), (2, .int 2)]) hx hb dX11_missingOf_94 hl (k := 1) rfl (by decide) (by decide) rfl (fun ls hl => ?_)
      refine lv_goto (tgt := 42) hx hb dX11_missingOf_97 (by decide) ?_
      refine lv_iload hx hb dX11_missingOf_42 (lv_at hl 0 rfl) ?_
      refine lv_if_lt (tgt := 100) hx hb dX11_missingOf_44 (by decide) (fun c9 => absurd c9 (by decide)) (fun _ => ?_)
      refine lv_aload_n hx hb dX11_missingOf_47 rfl (lv_at hl 3 rfl) ?_
      refine va_get (D := (dC, dI)) (ci := 11) (v := .ref (ra 15)) (C := RX11) (T := TX11) (N := 61) hx hb hts hin11 hown hK hP 0 rfl rfl 32 (by decide) (hts (.fieldLink RX11 79 "PathProberModel" "met" "[J") (List.mem_of_getElem? (i := 1) (by decide +kernel))) (fun _ h9 => h9) rfl dX11_missingOf_48 ?_
      refine lv_iload hx hb dX11_missingOf_51 (lv_at hl 0 rfl) ?_
      refine va_lald hx hb hK hP 1 2 rfl rfl (vp_in_nI (n := 0) (by decide) (by decide)) dX11_missingOf_53 ?_
      refine lv_topl (fun z13 e14 => ?_)
      obtain rfl : z13 = (fa 0 : Int64) := e14
      refine lv_iload hx hb dX11_missingOf_54 (lv_at hl 0 rfl) ?_
      refine lv_i2l (v := 0) hx hb dX11_missingOf_56 (by decide) ?_
      refine lv_lmul hx hb dX11_missingOf_57 ?_
      refine lv_iload_n hx hb dX11_missingOf_58 rfl (lv_at hl 5 rfl) ?_
      refine lv_i2l (v := 2) hx hb dX11_missingOf_59 (by decide) ?_
      refine lv_ldiv hx hb dX11_missingOf_60 (by decide) ?_
      refine lv_lstore (lv' := [(5, .long (((fa 0) * 0) / 2)), (4, .int 0), (3, .int (nI i)), (0, .ref m0), (1, .int (nI k)), (2, .int 2)]) hx hb dX11_missingOf_61 hl (by decide) rfl (fun ls hl => ?_)
      refine lv_aload_n hx hb dX11_missingOf_63 rfl (lv_at hl 3 rfl) ?_
      refine va_get (D := (dC, dI)) (ci := 11) (v := .ref (ra 15)) (C := RX11) (T := TX11) (N := 61) hx hb hts hin11 hown hK hP 0 rfl rfl 32 (by decide) (hts (.fieldLink RX11 79 "PathProberModel" "met" "[J") (List.mem_of_getElem? (i := 1) (by decide +kernel))) (fun _ h9 => h9) rfl dX11_missingOf_64 ?_
      refine lv_iload hx hb dX11_missingOf_67 (lv_at hl 1 rfl) ?_
      refine lv_iconst (v := 1) hx hb dX11_missingOf_69 (by decide) ?_
      refine lv_iadd hx hb dX11_missingOf_70 ?_
      refine lv_topi (fun z15 e16 => ?_)
      obtain rfl : z15 = (1 : Int32) := e16.trans (by decide)
      refine lv_dup2_11 hx hb dX11_missingOf_71 rfl rfl ?_
      refine va_lald hx hb hK hP 1 2 rfl rfl (vp_in_nI (n := 1) (by decide) (by decide)) dX11_missingOf_72 ?_
      refine lv_topl (fun z17 e18 => ?_)
      obtain rfl : z17 = (((fa 1) * 1) / 2 : Int64) := e18
      refine lv_aload_n hx hb dX11_missingOf_73 rfl (lv_at hl 3 rfl) ?_
      refine va_get (D := (dC, dI)) (ci := 11) (v := .ref (ra 15)) (C := RX11) (T := TX11) (N := 61) hx hb hts hin11 hown hK hP 0 rfl rfl 32 (by decide) (hts (.fieldLink RX11 79 "PathProberModel" "met" "[J") (List.mem_of_getElem? (i := 1) (by decide +kernel))) (fun _ h9 => h9) rfl dX11_missingOf_74 ?_
      refine lv_iload hx hb dX11_missingOf_77 (lv_at hl 1 rfl) ?_
      refine va_lald hx hb hK hP 1 2 rfl rfl (vp_in_nI (n := 0) (by decide) (by decide)) dX11_missingOf_79 ?_
      refine lv_topl (fun z19 e20 => ?_)
      obtain rfl : z19 = (fa 0 : Int64) := e20
      refine lv_lload hx hb dX11_missingOf_80 (lv_at hl 0 rfl) ?_
      refine lv_lsub hx hb dX11_missingOf_82 ?_
      refine lv_ladd hx hb dX11_missingOf_83 ?_
      refine va_last hx hb hK hP hD hS 1 2 rfl rfl (vp_in_nI (n := 1) (by decide) (by decide)) dX11_missingOf_84 (fun H locs hP hD hS => ?_)
      have hP : va_P (dC, dI) vwCl [(m0, .inr (11, oX11 ra x0)), (ra 15, .inl (kJ, 24, .inr (.inl (vp_updL (vp_updL (vp_updL fa 2 ((fa 2) + ((fa 1) - (((fa 1) * 1) / 2)))) 1 (((fa 1) * 1) / 2)) 1 ((((fa 1) * 1) / 2) + ((fa 0) - (((fa 0) * 0) / 2)))))))] H := hP
      have hD : va_D A [(m0, .inr (11, oX11 ra x0)), (ra 15, .inl (kJ, 24, .inr (.inl (vp_updL (vp_updL (vp_updL fa 2 ((fa 2) + ((fa 1) - (((fa 1) * 1) / 2)))) 1 (((fa 1) * 1) / 2)) 1 ((((fa 1) * 1) / 2) + ((fa 0) - (((fa 0) * 0) / 2)))))))] := hD
      refine lv_aload_n hx hb dX11_missingOf_85 rfl (lv_at hl 3 rfl) ?_
      refine va_get (D := (dC, dI)) (ci := 11) (v := .ref (ra 15)) (C := RX11) (T := TX11) (N := 61) hx hb hts hin11 hown hK hP 0 rfl rfl 32 (by decide) (hts (.fieldLink RX11 79 "PathProberModel" "met" "[J") (List.mem_of_getElem? (i := 1) (by decide +kernel))) (fun _ h9 => h9) rfl dX11_missingOf_86 ?_
      refine lv_iload hx hb dX11_missingOf_89 (lv_at hl 1 rfl) ?_
      refine lv_lload hx hb dX11_missingOf_91 (lv_at hl 0 rfl) ?_
      refine va_last hx hb hK hP hD hS 1 2 rfl rfl (vp_in_nI (n := 0) (by decide) (by decide)) dX11_missingOf_93 (fun H locs hP hD hS => ?_)
      have hP : va_P (dC, dI) vwCl [(m0, .inr (11, oX11 ra x0)), (ra 15, .inl (kJ, 24, .inr (.inl (vp_updL (vp_updL (vp_updL (vp_updL fa 2 ((fa 2) + ((fa 1) - (((fa 1) * 1) / 2)))) 1 (((fa 1) * 1) / 2)) 1 ((((fa 1) * 1) / 2) + ((fa 0) - (((fa 0) * 0) / 2)))) 0 (((fa 0) * 0) / 2)))))] H := hP
      have hD : va_D A [(m0, .inr (11, oX11 ra x0)), (ra 15, .inl (kJ, 24, .inr (.inl (vp_updL (vp_updL (vp_updL (vp_updL fa 2 ((fa 2) + ((fa 1) - (((fa 1) * 1) / 2)))) 1 (((fa 1) * 1) / 2)) 1 ((((fa 1) * 1) / 2) + ((fa 0) - (((fa 0) * 0) / 2)))) 0 (((fa 0) * 0) / 2)))))] := hD
      refine lv_iinc (v := (-1)) (lv' := [(4, .int (-1)), (5, .long (((fa 0) * 0) / 2)), (3, .int (nI i)), (0, .ref m0), (1, .int (nI k)), (2, .int 2)]) hx hb dX11_missingOf_94 hl (k := 1) rfl (by decide) (by decide) rfl (fun ls hl => ?_)
      refine lv_goto (tgt := 42) hx hb dX11_missingOf_97 (by decide) ?_
      refine lv_iload hx hb dX11_missingOf_42 (lv_at hl 0 rfl) ?_
      refine lv_if_lt (tgt := 100) hx hb dX11_missingOf_44 (by decide) (fun _ => ?_) (fun c9 => absurd (by decide) c9)
      refine lv_iinc (v := nI (i + 1)) (lv' := [(3, .int (nI (i + 1))), (4, .int (-1)), (5, .long (((fa 0) * 0) / 2)), (0, .ref m0), (1, .int (nI k)), (2, .int 2)]) hx hb dX11_missingOf_100 hl (k := 2) rfl (nI_1 i) (by decide) rfl (fun ls hl => ?_)
      refine lv_goto (tgt := 32) hx hb dX11_missingOf_103 (by decide) ?_
      exact ih (i + 1) (vp_updL (vp_updL (vp_updL (vp_updL fa 2 ((fa 2) + ((fa 1) - (((fa 1) * 1) / 2)))) 1 (((fa 1) * 1) / 2)) 1 ((((fa 1) * 1) / 2) + ((fa 0) - (((fa 0) * 0) / 2)))) 0 (((fa 0) * 0) / 2)) _ _ _ (by omega) (Eq.trans (show ((vp_updL (vp_updL (vp_updL (vp_updL fa 2 ((fa 2) + ((fa 1) - (((fa 1) * 1) / 2)))) 1 (((fa 1) * 1) / 2)) 1 ((((fa 1) * 1) / 2) + ((fa 0) - (((fa 0) * 0) / 2)))) 0 (((fa 0) * 0) / 2))) 0 = fa 0 * 0 / 2 from rfl) (by rw [hf0]; exact kvs2_0 i (by omega))) (Eq.trans (show ((vp_updL (vp_updL (vp_updL (vp_updL fa 2 ((fa 2) + ((fa 1) - (((fa 1) * 1) / 2)))) 1 (((fa 1) * 1) / 2)) 1 ((((fa 1) * 1) / 2) + ((fa 0) - (((fa 0) * 0) / 2)))) 0 (((fa 0) * 0) / 2))) 1 = fa 1 * 1 / 2 + (fa 0 - fa 0 * 0 / 2) from rfl) (by rw [hf0, hf1]; exact kvs2_1 i (by omega))) (Eq.trans (show ((vp_updL (vp_updL (vp_updL (vp_updL fa 2 ((fa 2) + ((fa 1) - (((fa 1) * 1) / 2)))) 1 (((fa 1) * 1) / 2)) 1 ((((fa 1) * 1) / 2) + ((fa 0) - (((fa 0) * 0) / 2)))) 0 (((fa 0) * 0) / 2))) 2 = fa 2 + (fa 1 - fa 1 * 1 / 2) from rfl) (by rw [hf1, hf2]; exact kvs2_2 i (by omega))) (hP.sub [0, 1] rfl) (hD.sub [0, 1] (by decide) rfl) hS (lv_sub hl [0, 3, 4, 5] rfl)
  exact hloop32 k 0 (vp_updL (vp_updL (vp_updL f1 0 1000000000000) 1 0) 2 0) _ _ _ (Nat.zero_add _) (rfl) (rfl) (rfl) hP hD hS (lv_sub hl [0, 1, 2, 3] rfl)
def rm_e11_missingOf_3 : Room := { frames := 0, cells := 0, slots := 0, locals := 0 }
set_option maxHeartbeats 4000000 in
set_option maxRecDepth 100000 in
theorem e11_missingOf_3 (l : Launch) (dC : Nat → ClassId) (dI : Nat → Nat → Nat) (kB kI kJ kZ kC kS : ClassId) (sz : Nat) (m0 : Nat) (ra : Nat → Nat) (x0 : Nat → Int32) (k : Nat) (f1 : Nat → Int64) (hk : k ≤ 60) : Met l yX11_missingOf wsX11_missingOf rm_e11_missingOf_3 (va_Pc [.ref m0, .int (nI k), .int 3] (fun U => U.heap.size = sz ∧ va_P (dC, dI) vwCl [(m0, .inr (11, oX11 ra x0)), (ra 15, .inl (kJ, 24, .inr (.inl f1)))] U.heap ∧ kE dC dI kB kI kJ kZ kC kS U ∧ va_D (fun _ => True) [(m0, .inr (11, oX11 ra x0)), (ra 15, .inl (kJ, 24, .inr (.inl f1)))])) (va_Ql (fun (r : Int64) (_ : Unit) => r = 1000000000000 - kv3 k 3) (fun _ t => ∃ (g1 : Nat → Int64), va_P (dC, dI) vwCl [(m0, .inr (11, oX11 ra x0)), (ra 15, .inl (kJ, 24, .inr (.inl g1)))] t.heap ∧ va_D (va_A [(m0, .inr (11, oX11 ra x0)), (ra 15, .inl (kJ, 24, .inr (.inl f1)))] sz) [(m0, .inr (11, oX11 ra x0)), (ra 15, .inl (kJ, 24, .inr (.inl g1)))]) (va_A [(m0, .inr (11, oX11 ra x0)), (ra 15, .inl (kJ, 24, .inr (.inl f1)))] sz)) 0 0 (va_A [(m0, .inr (11, oX11 ra x0)), (ra 15, .inl (kJ, 24, .inr (.inl f1)))] sz) := by
  refine Met.ofW (cc := cX11_missingOf) (maxL := 7) (ret := (some .long)) (by decide) rfl ?_
  intro p e s m args0 below meth c s₁ B hml hv
  obtain ⟨hargs, hsz, hP, hE, hD0⟩ := hv
  have hx := B.exec
  have hb := B.bytes
  have hr := B.returns
  have hts := atoms_spec (ws := wsX11_missingOf) B.pre
  have hown : s.vm.findClass RX11 = some m.cls := findClass_of_methodNamed B.named
  have hlocks := B.notSynchronized
  have hK := hE.1
  have hin11 : ∀ w ∈ wsX110, w ∈ wsX11_missingOf := fun _ h9 => List.mem_cons_of_mem _ (List.mem_append_right _ h9)
  subst hsz
  have hD := hD0.self (sz := s.heap.size)
  generalize hAe : va_A [(m0, .inr (11, oX11 ra x0)), (ra 15, .inl (kJ, 24, .inr (.inl f1)))] s.heap.size = A at hD ⊢
  have hA : ∀ q : Nat, s.heap.size ≤ q → A q := fun q h => by rw [← hAe]; exact Or.inr h
  have hS : va_S A s.heap s.heap [] := va_S.rf
  have hP : va_P (dC, dI) vwCl [(m0, .inr (11, oX11 ra x0)), (ra 15, .inl (kJ, 24, .inr (.inl f1)))] s.heap := hP
  have hl := lv_entry ([.ref m0, .int (nI k), .int 3]) (n := 7) (Nat.le_of_ble_eq_true rfl)
  have hla : entryFrame m args0 7 = entryFrame m ([.ref m0, .int (nI k), .int 3] : List Value).toArray 7 := by rw [hargs]
  rw [hla, lg_entry_eq]
  generalize (lg_sl ([.ref m0, .int (nI k), .int 3]) ++ List.replicate (7 - (lg_sl ([.ref m0, .int (nI k), .int 3])).length) Slot.unset).toArray = ls at hl ⊢
  have hl : lv_has ls 7 [(0, .ref m0), (1, .int (nI k)), (2, .int 3)] := hl
  refine lv_iconst (v := 0) hx hb dX11_missingOf_0 (by decide) ?_
  refine lv_istore_n (lv' := [(3, .int 0), (0, .ref m0), (1, .int (nI k)), (2, .int 3)]) hx hb dX11_missingOf_1 rfl hl (by decide) rfl (fun ls hl => ?_)
  refine lv_iload_n hx hb dX11_missingOf_2 rfl (lv_at hl 0 rfl) ?_
  refine lv_iload_n hx hb dX11_missingOf_3 rfl (lv_at hl 3 rfl) ?_
  refine lv_icmp_gt (tgt := 30) hx hb dX11_missingOf_4 (by decide) (fun c9 => absurd c9 (by decide)) (fun _ => ?_)
  refine lv_aload_n hx hb dX11_missingOf_7 rfl (lv_at hl 1 rfl) ?_
  refine va_get (D := (dC, dI)) (ci := 11) (v := .ref (ra 15)) (C := RX11) (T := TX11) (N := 61) hx hb hts hin11 hown hK hP 0 rfl rfl 32 (by decide) (hts (.fieldLink RX11 79 "PathProberModel" "met" "[J") (List.mem_of_getElem? (i := 1) (by decide +kernel))) (fun _ h9 => h9) rfl dX11_missingOf_8 ?_
  refine lv_iload_n hx hb dX11_missingOf_11 rfl (lv_at hl 0 rfl) ?_
  refine lv_iload_n hx hb dX11_missingOf_12 rfl (lv_at hl 0 rfl) ?_
  refine lv_if_ne (tgt := 22) hx hb dX11_missingOf_13 (by decide) (fun c9 => absurd (by decide) c9) (fun _ => ?_)
  refine lv_ldc2 hx hb hown (hts (.constantLong RX11 320 (1000000000000)) (List.mem_of_getElem? (i := 2) (by decide +kernel))) dX11_missingOf_16 ?_
  refine lv_goto (tgt := 23) hx hb dX11_missingOf_19 (by decide) ?_
  refine va_last hx hb hK hP hD hS 1 2 rfl rfl (vp_in_nI (n := 0) (by decide) (by decide)) dX11_missingOf_23 (fun H locs hP hD hS => ?_)
  have hP : va_P (dC, dI) vwCl [(m0, .inr (11, oX11 ra x0)), (ra 15, .inl (kJ, 24, .inr (.inl (vp_updL f1 0 1000000000000))))] H := hP
  have hD : va_D A [(m0, .inr (11, oX11 ra x0)), (ra 15, .inl (kJ, 24, .inr (.inl (vp_updL f1 0 1000000000000))))] := hD
  refine lv_iinc (v := 1) (lv' := [(3, .int 1), (0, .ref m0), (1, .int (nI k)), (2, .int 3)]) hx hb dX11_missingOf_24 hl (k := 0) rfl (by decide) (by decide) rfl (fun ls hl => ?_)
  refine lv_goto (tgt := 2) hx hb dX11_missingOf_27 (by decide) ?_
  refine lv_iload_n hx hb dX11_missingOf_2 rfl (lv_at hl 0 rfl) ?_
  refine lv_iload_n hx hb dX11_missingOf_3 rfl (lv_at hl 3 rfl) ?_
  refine lv_icmp_gt (tgt := 30) hx hb dX11_missingOf_4 (by decide) (fun c9 => absurd c9 (by decide)) (fun _ => ?_)
  refine lv_aload_n hx hb dX11_missingOf_7 rfl (lv_at hl 1 rfl) ?_
  refine va_get (D := (dC, dI)) (ci := 11) (v := .ref (ra 15)) (C := RX11) (T := TX11) (N := 61) hx hb hts hin11 hown hK hP 0 rfl rfl 32 (by decide) (hts (.fieldLink RX11 79 "PathProberModel" "met" "[J") (List.mem_of_getElem? (i := 1) (by decide +kernel))) (fun _ h9 => h9) rfl dX11_missingOf_8 ?_
  refine lv_iload_n hx hb dX11_missingOf_11 rfl (lv_at hl 0 rfl) ?_
  refine lv_iload_n hx hb dX11_missingOf_12 rfl (lv_at hl 0 rfl) ?_
  refine lv_if_ne (tgt := 22) hx hb dX11_missingOf_13 (by decide) (fun _ => ?_) (fun c9 => absurd c9 (by decide))
  refine lv_lconst (v := 0) hx hb dX11_missingOf_22 (by decide) ?_
  refine va_last hx hb hK hP hD hS 1 2 rfl rfl (vp_in_nI (n := 1) (by decide) (by decide)) dX11_missingOf_23 (fun H locs hP hD hS => ?_)
  have hP : va_P (dC, dI) vwCl [(m0, .inr (11, oX11 ra x0)), (ra 15, .inl (kJ, 24, .inr (.inl (vp_updL (vp_updL f1 0 1000000000000) 1 0))))] H := hP
  have hD : va_D A [(m0, .inr (11, oX11 ra x0)), (ra 15, .inl (kJ, 24, .inr (.inl (vp_updL (vp_updL f1 0 1000000000000) 1 0))))] := hD
  refine lv_iinc (v := 2) (lv' := [(3, .int 2), (0, .ref m0), (1, .int (nI k)), (2, .int 3)]) hx hb dX11_missingOf_24 hl (k := 0) rfl (by decide) (by decide) rfl (fun ls hl => ?_)
  refine lv_goto (tgt := 2) hx hb dX11_missingOf_27 (by decide) ?_
  refine lv_iload_n hx hb dX11_missingOf_2 rfl (lv_at hl 0 rfl) ?_
  refine lv_iload_n hx hb dX11_missingOf_3 rfl (lv_at hl 3 rfl) ?_
  refine lv_icmp_gt (tgt := 30) hx hb dX11_missingOf_4 (by decide) (fun c9 => absurd c9 (by decide)) (fun _ => ?_)
  refine lv_aload_n hx hb dX11_missingOf_7 rfl (lv_at hl 1 rfl) ?_
  refine va_get (D := (dC, dI)) (ci := 11) (v := .ref (ra 15)) (C := RX11) (T := TX11) (N := 61) hx hb hts hin11 hown hK hP 0 rfl rfl 32 (by decide) (hts (.fieldLink RX11 79 "PathProberModel" "met" "[J") (List.mem_of_getElem? (i := 1) (by decide +kernel))) (fun _ h9 => h9) rfl dX11_missingOf_8 ?_
  refine lv_iload_n hx hb dX11_missingOf_11 rfl (lv_at hl 0 rfl) ?_
  refine lv_iload_n hx hb dX11_missingOf_12 rfl (lv_at hl 0 rfl) ?_
  refine lv_if_ne (tgt := 22) hx hb dX11_missingOf_13 (by decide) (fun _ => ?_) (fun c9 => absurd c9 (by decide))
  refine lv_lconst (v := 0) hx hb dX11_missingOf_22 (by decide) ?_
  refine va_last hx hb hK hP hD hS 1 2 rfl rfl (vp_in_nI (n := 2) (by decide) (by decide)) dX11_missingOf_23 (fun H locs hP hD hS => ?_)
  have hP : va_P (dC, dI) vwCl [(m0, .inr (11, oX11 ra x0)), (ra 15, .inl (kJ, 24, .inr (.inl (vp_updL (vp_updL (vp_updL f1 0 1000000000000) 1 0) 2 0))))] H := hP
  have hD : va_D A [(m0, .inr (11, oX11 ra x0)), (ra 15, .inl (kJ, 24, .inr (.inl (vp_updL (vp_updL (vp_updL f1 0 1000000000000) 1 0) 2 0))))] := hD
  refine lv_iinc (v := 3) (lv' := [(3, .int 3), (0, .ref m0), (1, .int (nI k)), (2, .int 3)]) hx hb dX11_missingOf_24 hl (k := 0) rfl (by decide) (by decide) rfl (fun ls hl => ?_)
  refine lv_goto (tgt := 2) hx hb dX11_missingOf_27 (by decide) ?_
  refine lv_iload_n hx hb dX11_missingOf_2 rfl (lv_at hl 0 rfl) ?_
  refine lv_iload_n hx hb dX11_missingOf_3 rfl (lv_at hl 3 rfl) ?_
  refine lv_icmp_gt (tgt := 30) hx hb dX11_missingOf_4 (by decide) (fun c9 => absurd c9 (by decide)) (fun _ => ?_)
  refine lv_aload_n hx hb dX11_missingOf_7 rfl (lv_at hl 1 rfl) ?_
  refine va_get (D := (dC, dI)) (ci := 11) (v := .ref (ra 15)) (C := RX11) (T := TX11) (N := 61) hx hb hts hin11 hown hK hP 0 rfl rfl 32 (by decide) (hts (.fieldLink RX11 79 "PathProberModel" "met" "[J") (List.mem_of_getElem? (i := 1) (by decide +kernel))) (fun _ h9 => h9) rfl dX11_missingOf_8 ?_
  refine lv_iload_n hx hb dX11_missingOf_11 rfl (lv_at hl 0 rfl) ?_
  refine lv_iload_n hx hb dX11_missingOf_12 rfl (lv_at hl 0 rfl) ?_
  refine lv_if_ne (tgt := 22) hx hb dX11_missingOf_13 (by decide) (fun _ => ?_) (fun c9 => absurd c9 (by decide))
  refine lv_lconst (v := 0) hx hb dX11_missingOf_22 (by decide) ?_
  refine va_last hx hb hK hP hD hS 1 2 rfl rfl (vp_in_nI (n := 3) (by decide) (by decide)) dX11_missingOf_23 (fun H locs hP hD hS => ?_)
  have hP : va_P (dC, dI) vwCl [(m0, .inr (11, oX11 ra x0)), (ra 15, .inl (kJ, 24, .inr (.inl (vp_updL (vp_updL (vp_updL (vp_updL f1 0 1000000000000) 1 0) 2 0) 3 0))))] H := hP
  have hD : va_D A [(m0, .inr (11, oX11 ra x0)), (ra 15, .inl (kJ, 24, .inr (.inl (vp_updL (vp_updL (vp_updL (vp_updL f1 0 1000000000000) 1 0) 2 0) 3 0))))] := hD
  refine lv_iinc (v := 4) (lv' := [(3, .int 4), (0, .ref m0), (1, .int (nI k)), (2, .int 3)]) hx hb dX11_missingOf_24 hl (k := 0) rfl (by decide) (by decide) rfl (fun ls hl => ?_)
  refine lv_goto (tgt := 2) hx hb dX11_missingOf_27 (by decide) ?_
  refine lv_iload_n hx hb dX11_missingOf_2 rfl (lv_at hl 0 rfl) ?_
  refine lv_iload_n hx hb dX11_missingOf_3 rfl (lv_at hl 3 rfl) ?_
  refine lv_icmp_gt (tgt := 30) hx hb dX11_missingOf_4 (by decide) (fun _ => ?_) (fun c9 => absurd (by decide) c9)
  refine lv_iconst (v := 0) hx hb dX11_missingOf_30 (by decide) ?_
  refine lv_istore_n (lv' := [(3, .int 0), (0, .ref m0), (1, .int (nI k)), (2, .int 3)]) hx hb dX11_missingOf_31 rfl hl (by decide) rfl (fun ls hl => ?_)
  have hloop32 : ∀ (n : Nat) (i : Nat) (fa : Nat → Int64) (H : Heap) (locs : List Loc) (ls : Array Slot), i + n = k → fa 0 = kv3 i 0 → fa 1 = kv3 i 1 → fa 2 = kv3 i 2 → fa 3 = kv3 i 3 → va_P (dC, dI) vwCl [(m0, .inr (11, oX11 ra x0)), (ra 15, .inl (kJ, 24, .inr (.inl fa)))] H → va_D A [(m0, .inr (11, oX11 ra x0)), (ra 15, .inl (kJ, 24, .inr (.inl fa)))] → va_S A s.heap H locs → lv_has ls 7 [(3, .int (nI i)), (0, .ref m0), (1, .int (nI k)), (2, .int 3)] → W p l e (headSpec wsX11_missingOf rm_e11_missingOf_3).room s m args0 below meth c H locs 0 0 (MQ below (va_Ql (fun (r : Int64) (_ : Unit) => r = 1000000000000 - kv3 k 3) (fun _ t => ∃ (g1 : Nat → Int64), va_P (dC, dI) vwCl [(m0, .inr (11, oX11 ra x0)), (ra 15, .inl (kJ, 24, .inr (.inl g1)))] t.heap ∧ va_D A [(m0, .inr (11, oX11 ra x0)), (ra 15, .inl (kJ, 24, .inr (.inl g1)))]) A) args0 s 0 0 A) (F0 m 32 ls []) := by
    intro n
    induction n with
    | zero =>
      intro i fa H locs ls hi hf0 hf1 hf2 hf3 hP hD hS hl
      refine lv_iload_n hx hb dX11_missingOf_32 rfl (lv_at hl 0 rfl) ?_
      refine lv_iload_n hx hb dX11_missingOf_33 rfl (lv_at hl 2 rfl) ?_
      refine lv_icmp_ge (tgt := 106) hx hb dX11_missingOf_34 (by decide) (fun _ => ?_) (fun c9 => absurd (nI_le (by omega) (by omega)) c9)
      refine lv_ldc2 hx hb hown (hts (.constantLong RX11 320 (1000000000000)) (List.mem_of_getElem? (i := 2) (by decide +kernel))) dX11_missingOf_106 ?_
      refine lv_aload_n hx hb dX11_missingOf_109 rfl (lv_at hl 1 rfl) ?_
      refine va_get (D := (dC, dI)) (ci := 11) (v := .ref (ra 15)) (C := RX11) (T := TX11) (N := 61) hx hb hts hin11 hown hK hP 0 rfl rfl 32 (by decide) (hts (.fieldLink RX11 79 "PathProberModel" "met" "[J") (List.mem_of_getElem? (i := 1) (by decide +kernel))) (fun _ h9 => h9) rfl dX11_missingOf_110 ?_
      refine lv_iload_n hx hb dX11_missingOf_113 rfl (lv_at hl 3 rfl) ?_
      refine va_lald hx hb hK hP 1 2 rfl rfl (vp_in_nI (n := 3) (by decide) (by decide)) dX11_missingOf_114 ?_
      refine lv_topl (fun z1 e2 => ?_)
      obtain rfl : z1 = (fa 3 : Int64) := e2
      refine lv_lsub hx hb dX11_missingOf_115 ?_
      have hP9 := hP.sub (ws' := [(m0, .inr (11, oX11 ra x0)), (ra 15, .inl (kJ, 24, .inr (.inl fa)))]) [0, 1] rfl
      have hD9 := hD.sub (ws' := [(m0, .inr (11, oX11 ra x0)), (ra 15, .inl (kJ, 24, .inr (.inl fa)))]) [0, 1] (by decide) rfl
      exact W.lret (v := 1000000000000 - (fa 3)) hx hb hr (fun t ht hW => ⟨⟨1000000000000 - (fa 3), (), rfl, by have h9 : i = k := (by omega); subst h9; rw [hf3], fa, by rw [ht]; exact hP9, hD9⟩, hS.F ht⟩) hS.2.2 dX11_missingOf_116
    | succ n ih =>
      intro i fa H locs ls hi hf0 hf1 hf2 hf3 hP hD hS hl
      refine lv_iload_n hx hb dX11_missingOf_32 rfl (lv_at hl 0 rfl) ?_
      refine lv_iload_n hx hb dX11_missingOf_33 rfl (lv_at hl 2 rfl) ?_
      refine lv_icmp_ge (tgt := 106) hx hb dX11_missingOf_34 (by decide) (fun c9 => absurd c9 (nI_ge (by omega) (by omega))) (fun _ => ?_)
      refine lv_iload_n hx hb dX11_missingOf_37 rfl (lv_at hl 3 rfl) ?_
      refine lv_iconst (v := 1) hx hb dX11_missingOf_38 (by decide) ?_
      refine lv_isub hx hb dX11_missingOf_39 ?_
      refine lv_topi (fun z3 e4 => ?_)
      obtain rfl : z3 = (2 : Int32) := e4.trans (by decide)
      refine lv_istore (lv' := [(4, .int 2), (3, .int (nI i)), (0, .ref m0), (1, .int (nI k)), (2, .int 3)]) hx hb dX11_missingOf_40 hl (by decide) rfl (fun ls hl => ?_)
      refine lv_iload hx hb dX11_missingOf_42 (lv_at hl 0 rfl) ?_
      refine lv_if_lt (tgt := 100) hx hb dX11_missingOf_44 (by decide) (fun c9 => absurd c9 (by decide)) (fun _ => ?_)
      refine lv_aload_n hx hb dX11_missingOf_47 rfl (lv_at hl 2 rfl) ?_
      refine va_get (D := (dC, dI)) (ci := 11) (v := .ref (ra 15)) (C := RX11) (T := TX11) (N := 61) hx hb hts hin11 hown hK hP 0 rfl rfl 32 (by decide) (hts (.fieldLink RX11 79 "PathProberModel" "met" "[J") (List.mem_of_getElem? (i := 1) (by decide +kernel))) (fun _ h9 => h9) rfl dX11_missingOf_48 ?_
      refine lv_iload hx hb dX11_missingOf_51 (lv_at hl 0 rfl) ?_
      refine va_lald hx hb hK hP 1 2 rfl rfl (vp_in_nI (n := 2) (by decide) (by decide)) dX11_missingOf_53 ?_
      refine lv_topl (fun z5 e6 => ?_)
      obtain rfl : z5 = (fa 2 : Int64) := e6
      refine lv_iload hx hb dX11_missingOf_54 (lv_at hl 0 rfl) ?_
      refine lv_i2l (v := 2) hx hb dX11_missingOf_56 (by decide) ?_
      refine lv_lmul hx hb dX11_missingOf_57 ?_
      refine lv_iload_n hx hb dX11_missingOf_58 rfl (lv_at hl 4 rfl) ?_
      refine lv_i2l (v := 3) hx hb dX11_missingOf_59 (by decide) ?_
      refine lv_ldiv hx hb dX11_missingOf_60 (by decide) ?_
      refine lv_lstore (lv' := [(5, .long (((fa 2) * 2) / 3)), (4, .int 2), (3, .int (nI i)), (0, .ref m0), (1, .int (nI k)), (2, .int 3)]) hx hb dX11_missingOf_61 hl (by decide) rfl (fun ls hl => ?_)
      refine lv_aload_n hx hb dX11_missingOf_63 rfl (lv_at hl 3 rfl) ?_
      refine va_get (D := (dC, dI)) (ci := 11) (v := .ref (ra 15)) (C := RX11) (T := TX11) (N := 61) hx hb hts hin11 hown hK hP 0 rfl rfl 32 (by decide) (hts (.fieldLink RX11 79 "PathProberModel" "met" "[J") (List.mem_of_getElem? (i := 1) (by decide +kernel))) (fun _ h9 => h9) rfl dX11_missingOf_64 ?_
      refine lv_iload hx hb dX11_missingOf_67 (lv_at hl 1 rfl) ?_
      refine lv_iconst (v := 1) hx hb dX11_missingOf_69 (by decide) ?_
      refine lv_iadd hx hb dX11_missingOf_70 ?_
      refine lv_topi (fun z7 e8 => ?_)
      obtain rfl : z7 = (3 : Int32) := e8.trans (by decide)
      refine lv_dup2_11 hx hb dX11_missingOf_71 rfl rfl ?_
      refine va_lald hx hb hK hP 1 2 rfl rfl (vp_in_nI (n := 3) (by decide) (by decide)) dX11_missingOf_72 ?_
      refine lv_topl (fun z9 e10 => ?_)
      obtain rfl : z9 = (fa 3 : Int64) := e10
      refine lv_aload_n hx hb dX11_missingOf_73 rfl (lv_at hl 3 rfl) ?_
      refine va_get (D := (dC, dI)) (ci := 11) (v := .ref (ra 15)) (C := RX11) (T := TX11) (N := 61) hx hb hts hin11 hown hK hP 0 rfl rfl 32 (by decide) (hts (.fieldLink RX11 79 "PathProberModel" "met" "[J") (List.mem_of_getElem? (i := 1) (by decide +kernel))) (fun _ h9 => h9) rfl dX11_missingOf_74 ?_
      refine lv_iload hx hb dX11_missingOf_77 (lv_at hl 1 rfl) ?_
      refine va_lald hx hb hK hP 1 2 rfl rfl (vp_in_nI (n := 2) (by decide) (by decide)) dX11_missingOf_79 ?_
      refine lv_topl (fun z11 e12 => ?_)
      obtain rfl : z11 = (fa 2 : Int64) := e12
      refine lv_lload hx hb dX11_missingOf_80 (lv_at hl 0 rfl) ?_
      refine lv_lsub hx hb dX11_missingOf_82 ?_
      refine lv_ladd hx hb dX11_missingOf_83 ?_
      refine va_last hx hb hK hP hD hS 1 2 rfl rfl (vp_in_nI (n := 3) (by decide) (by decide)) dX11_missingOf_84 (fun H locs hP hD hS => ?_)
      have hP : va_P (dC, dI) vwCl [(m0, .inr (11, oX11 ra x0)), (ra 15, .inl (kJ, 24, .inr (.inl (vp_updL fa 3 ((fa 3) + ((fa 2) - (((fa 2) * 2) / 3)))))))] H := hP
      have hD : va_D A [(m0, .inr (11, oX11 ra x0)), (ra 15, .inl (kJ, 24, .inr (.inl (vp_updL fa 3 ((fa 3) + ((fa 2) - (((fa 2) * 2) / 3)))))))] := hD
      refine lv_aload_n hx hb dX11_missingOf_85 rfl (lv_at hl 3 rfl) ?_
      refine va_get (D := (dC, dI)) (ci := 11) (v := .ref (ra 15)) (C := RX11) (T := TX11) (N := 61) hx hb hts hin11 hown hK hP 0 rfl rfl 32 (by decide) (hts (.fieldLink RX11 79 "PathProberModel" "met" "[J") (List.mem_of_getElem? (i := 1) (by decide +kernel))) (fun _ h9 => h9) rfl dX11_missingOf_86 ?_
      refine lv_iload hx hb dX11_missingOf_89 (lv_at hl 1 rfl) ?_
      refine lv_lload hx hb dX11_missingOf_91 (lv_at hl 0 rfl) ?_
      refine va_last hx hb hK hP hD hS 1 2 rfl rfl (vp_in_nI (n := 2) (by decide) (by decide)) dX11_missingOf_93 (fun H locs hP hD hS => ?_)
      have hP : va_P (dC, dI) vwCl [(m0, .inr (11, oX11 ra x0)), (ra 15, .inl (kJ, 24, .inr (.inl (vp_updL (vp_updL fa 3 ((fa 3) + ((fa 2) - (((fa 2) * 2) / 3)))) 2 (((fa 2) * 2) / 3)))))] H := hP
      have hD : va_D A [(m0, .inr (11, oX11 ra x0)), (ra 15, .inl (kJ, 24, .inr (.inl (vp_updL (vp_updL fa 3 ((fa 3) + ((fa 2) - (((fa 2) * 2) / 3)))) 2 (((fa 2) * 2) / 3)))))] := hD
      refine lv_iinc (v := 1) (lv' := [(4, .int 1), (5, .long (((fa 2) * 2) / 3)), (3, .int (nI i)), (0, .ref m0), (1, .int (nI k)), (2, .int 3)]) hx hb dX11_missingOf_94 hl (k := 1) rfl (by decide) (by decide) rfl (fun ls hl => ?_)
      refine lv_goto (tgt := 42) hx hb dX11_missingOf_97 (by decide) ?_
      refine lv_iload hx hb dX11_missingOf_42 (lv_at hl 0 rfl) ?_
      refine lv_if_lt (tgt := 100) hx hb dX11_missingOf_44 (by decide) (fun c9 => absurd c9 (by decide)) (fun _ => ?_)
      refine lv_aload_n hx hb dX11_missingOf_47 rfl (lv_at hl 3 rfl) ?_
      refine va_get (D := (dC, dI)) (ci := 11) (v := .ref (ra 15)) (C := RX11) (T := TX11) (N := 61) hx hb hts hin11 hown hK hP 0 rfl rfl 32 (by decide) (hts (.fieldLink RX11 79 "PathProberModel" "met" "[J") (List.mem_of_getElem? (i := 1) (by decide +kernel))) (fun _ h9 => h9) rfl dX11_missingOf_48 ?_
      refine lv_iload hx hb dX11_missingOf_51 (lv_at hl 0 rfl) ?_
      refine va_lald hx hb hK hP 1 2 rfl rfl (vp_in_nI (n := 1) (by decide) (by decide)) dX11_missingOf_53 ?_
      refine lv_topl (fun z13 e14 => ?_)
      obtain rfl : z13 = (fa 1 : Int64) := e14
      refine lv_iload hx hb dX11_missingOf_54 (lv_at hl 0 rfl) ?_
      refine lv_i2l (v := 1) hx hb dX11_missingOf_56 (by decide) ?_
      refine lv_lmul hx hb dX11_missingOf_57 ?_
      refine lv_iload_n hx hb dX11_missingOf_58 rfl (lv_at hl 5 rfl) ?_
      refine lv_i2l (v := 3) hx hb dX11_missingOf_59 (by decide) ?_
      refine lv_ldiv hx hb dX11_missingOf_60 (by decide) ?_
      refine lv_lstore (lv' := [(5, .long (((fa 1) * 1) / 3)), (4, .int 1), (3, .int (nI i)), (0, .ref m0), (1, .int (nI k)), (2, .int 3)]) hx hb dX11_missingOf_61 hl (by decide) rfl (fun ls hl => ?_)
      refine lv_aload_n hx hb dX11_missingOf_63 rfl (lv_at hl 3 rfl) ?_
      refine va_get (D := (dC, dI)) (ci := 11) (v := .ref (ra 15)) (C := RX11) (T := TX11) (N := 61) hx hb hts hin11 hown hK hP 0 rfl rfl 32 (by decide) (hts (.fieldLink RX11 79 "PathProberModel" "met" "[J") (List.mem_of_getElem? (i := 1) (by decide +kernel))) (fun _ h9 => h9) rfl dX11_missingOf_64 ?_
      refine lv_iload hx hb dX11_missingOf_67 (lv_at hl 1 rfl) ?_
      refine lv_iconst (v := 1) hx hb dX11_missingOf_69 (by decide) ?_
      refine lv_iadd hx hb dX11_missingOf_70 ?_
      refine lv_topi (fun z15 e16 => ?_)
      obtain rfl : z15 = (2 : Int32) := e16.trans (by decide)
      refine lv_dup2_11 hx hb dX11_missingOf_71 rfl rfl ?_
      refine va_lald hx hb hK hP 1 2 rfl rfl (vp_in_nI (n := 2) (by decide) (by decide)) dX11_missingOf_72 ?_
      refine lv_topl (fun z17 e18 => ?_)
      obtain rfl : z17 = (((fa 2) * 2) / 3 : Int64) := e18
      refine lv_aload_n hx hb dX11_missingOf_73 rfl (lv_at hl 3 rfl) ?_
      refine va_get (D := (dC, dI)) (ci := 11) (v := .ref (ra 15)) (C := RX11) (T := TX11) (N := 61) hx hb hts hin11 hown hK hP 0 rfl rfl 32 (by decide) (hts (.fieldLink RX11 79 "PathProberModel" "met" "[J") (List.mem_of_getElem? (i := 1) (by decide +kernel))) (fun _ h9 => h9) rfl dX11_missingOf_74 ?_
      refine lv_iload hx hb dX11_missingOf_77 (lv_at hl 1 rfl) ?_
      refine va_lald hx hb hK hP 1 2 rfl rfl (vp_in_nI (n := 1) (by decide) (by decide)) dX11_missingOf_79 ?_
      refine lv_topl (fun z19 e20 => ?_)
      obtain rfl : z19 = (fa 1 : Int64) := e20
      refine lv_lload hx hb dX11_missingOf_80 (lv_at hl 0 rfl) ?_
      refine lv_lsub hx hb dX11_missingOf_82 ?_
      refine lv_ladd hx hb dX11_missingOf_83 ?_
      refine va_last hx hb hK hP hD hS 1 2 rfl rfl (vp_in_nI (n := 2) (by decide) (by decide)) dX11_missingOf_84 (fun H locs hP hD hS => ?_)
      have hP : va_P (dC, dI) vwCl [(m0, .inr (11, oX11 ra x0)), (ra 15, .inl (kJ, 24, .inr (.inl (vp_updL (vp_updL (vp_updL fa 3 ((fa 3) + ((fa 2) - (((fa 2) * 2) / 3)))) 2 (((fa 2) * 2) / 3)) 2 ((((fa 2) * 2) / 3) + ((fa 1) - (((fa 1) * 1) / 3)))))))] H := hP
      have hD : va_D A [(m0, .inr (11, oX11 ra x0)), (ra 15, .inl (kJ, 24, .inr (.inl (vp_updL (vp_updL (vp_updL fa 3 ((fa 3) + ((fa 2) - (((fa 2) * 2) / 3)))) 2 (((fa 2) * 2) / 3)) 2 ((((fa 2) * 2) / 3) + ((fa 1) - (((fa 1) * 1) / 3)))))))] := hD
      refine lv_aload_n hx hb dX11_missingOf_85 rfl (lv_at hl 3 rfl) ?_
      refine va_get (D := (dC, dI)) (ci := 11) (v := .ref (ra 15)) (C := RX11) (T := TX11) (N := 61) hx hb hts hin11 hown hK hP 0 rfl rfl 32 (by decide) (hts (.fieldLink RX11 79 "PathProberModel" "met" "[J") (List.mem_of_getElem? (i := 1) (by decide +kernel))) (fun _ h9 => h9) rfl dX11_missingOf_86 ?_
      refine lv_iload hx hb dX11_missingOf_89 (lv_at hl 1 rfl) ?_
      refine lv_lload hx hb dX11_missingOf_91 (lv_at hl 0 rfl) ?_
      refine va_last hx hb hK hP hD hS 1 2 rfl rfl (vp_in_nI (n := 1) (by decide) (by decide)) dX11_missingOf_93 (fun H locs hP hD hS => ?_)
      have hP : va_P (dC, dI) vwCl [(m0, .inr (11, oX11 ra x0)), (ra 15, .inl (kJ, 24, .inr (.inl (vp_updL (vp_updL (vp_updL (vp_updL fa 3 ((fa 3) + ((fa 2) - (((fa 2) * 2) / 3)))) 2 (((fa 2) * 2) / 3)) 2 ((((fa 2) * 2) / 3) + ((fa 1) - (((fa 1) * 1) / 3)))) 1 (((fa 1) * 1) / 3)))))] H := hP
      have hD : va_D A [(m0, .inr (11, oX11 ra x0)), (ra 15, .inl (kJ, 24, .inr (.inl (vp_updL (vp_updL (vp_updL (vp_updL fa 3 ((fa 3) + ((fa 2) - (((fa 2) * 2) / 3)))) 2 (((fa 2) * 2) / 3)) 2 ((((fa 2) * 2) / 3) + ((fa 1) - (((fa 1) * 1) / 3)))) 1 (((fa 1) * 1) / 3)))))] := hD
      refine lv_iinc (v := 0) (lv' := [(4, .int 0), (5, .long (((fa 1) * 1) / 3)), (3, .int (nI i)), (0, .ref m0), (1, .int (nI k)), (2, .int 3)]) hx hb dX11_missingOf_94 hl (k := 1) rfl (by decide) (by decide) rfl (fun ls hl => ?_)
      refine lv_goto (tgt := 42) hx hb dX11_missingOf_97 (by decide) ?_
      refine lv_iload hx hb dX11_missingOf_42 (lv_at hl 0 rfl) ?_
      refine lv_if_lt (tgt := 100) hx hb dX11_missingOf_44 (by decide) (fun c9 => absurd c9 (by decide)) (fun _ => ?_)
      refine lv_aload_n hx hb dX11_missingOf_47 rfl (lv_at hl 3 rfl) ?_
      refine va_get (D := (dC, dI)) (ci := 11) (v := .ref (ra 15)) (C := RX11) (T := TX11) (N := 61) hx hb hts hin11 hown hK hP 0 rfl rfl 32 (by decide) (hts (.fieldLink RX11 79 "PathProberModel" "met" "[J") (List.mem_of_getElem? (i := 1) (by decide +kernel))) (fun _ h9 => h9) rfl dX11_missingOf_48 ?_
      refine lv_iload hx hb dX11_missingOf_51 (lv_at hl 0 rfl) ?_
      refine va_lald hx hb hK hP 1 2 rfl rfl (vp_in_nI (n := 0) (by decide) (by decide)) dX11_missingOf_53 ?_
      refine lv_topl (fun z21 e22 => ?_)
      obtain rfl : z21 = (fa 0 : Int64) := e22
      refine lv_iload hx hb dX11_missingOf_54 (lv_at hl 0 rfl) ?_
      refine lv_i2l (v := 0) hx hb dX11_missingOf_56 (by decide) ?_
      refine lv_lmul hx hb dX11_missingOf_57 ?_
      refine lv_iload_n hx hb dX11_missingOf_58 rfl (lv_at hl 5 rfl) ?_
      refine lv_i2l (v := 3) hx hb dX11_missingOf_59 (by decide) ?_
      refine lv_ldiv hx hb dX11_missingOf_60 (by decide) ?_
      refine lv_lstore (lv' := [(5, .long (((fa 0) * 0) / 3)), (4, .int 0), (3, .int (nI i)), (0, .ref m0), (1, .int (nI k)), (2, .int 3)]) hx hb dX11_missingOf_61 hl (by decide) rfl (fun ls hl => ?_)
      refine lv_aload_n hx hb dX11_missingOf_63 rfl (lv_at hl 3 rfl) ?_
      refine va_get (D := (dC, dI)) (ci := 11) (v := .ref (ra 15)) (C := RX11) (T := TX11) (N := 61) hx hb hts hin11 hown hK hP 0 rfl rfl 32 (by decide) (hts (.fieldLink RX11 79 "PathProberModel" "met" "[J") (List.mem_of_getElem? (i := 1) (by decide +kernel))) (fun _ h9 => h9) rfl dX11_missingOf_64 ?_
      refine lv_iload hx hb dX11_missingOf_67 (lv_at hl 1 rfl) ?_
      refine lv_iconst (v := 1) hx hb dX11_missingOf_69 (by decide) ?_
      refine lv_iadd hx hb dX11_missingOf_70 ?_
      refine lv_topi (fun z23 e24 => ?_)
      obtain rfl : z23 = (1 : Int32) := e24.trans (by decide)
      refine lv_dup2_11 hx hb dX11_missingOf_71 rfl rfl ?_
      refine va_lald hx hb hK hP 1 2 rfl rfl (vp_in_nI (n := 1) (by decide) (by decide)) dX11_missingOf_72 ?_
      refine lv_topl (fun z25 e26 => ?_)
      obtain rfl : z25 = (((fa 1) * 1) / 3 : Int64) := e26
      refine lv_aload_n hx hb dX11_missingOf_73 rfl (lv_at hl 3 rfl) ?_
      refine va_get (D := (dC, dI)) (ci := 11) (v := .ref (ra 15)) (C := RX11) (T := TX11) (N := 61) hx hb hts hin11 hown hK hP 0 rfl rfl 32 (by decide) (hts (.fieldLink RX11 79 "PathProberModel" "met" "[J") (List.mem_of_getElem? (i := 1) (by decide +kernel))) (fun _ h9 => h9) rfl dX11_missingOf_74 ?_
      refine lv_iload hx hb dX11_missingOf_77 (lv_at hl 1 rfl) ?_
      refine va_lald hx hb hK hP 1 2 rfl rfl (vp_in_nI (n := 0) (by decide) (by decide)) dX11_missingOf_79 ?_
      refine lv_topl (fun z27 e28 => ?_)
      obtain rfl : z27 = (fa 0 : Int64) := e28
      refine lv_lload hx hb dX11_missingOf_80 (lv_at hl 0 rfl) ?_
      refine lv_lsub hx hb dX11_missingOf_82 ?_
      refine lv_ladd hx hb dX11_missingOf_83 ?_
      refine va_last hx hb hK hP hD hS 1 2 rfl rfl (vp_in_nI (n := 1) (by decide) (by decide)) dX11_missingOf_84 (fun H locs hP hD hS => ?_)
      have hP : va_P (dC, dI) vwCl [(m0, .inr (11, oX11 ra x0)), (ra 15, .inl (kJ, 24, .inr (.inl (vp_updL (vp_updL (vp_updL (vp_updL (vp_updL fa 3 ((fa 3) + ((fa 2) - (((fa 2) * 2) / 3)))) 2 (((fa 2) * 2) / 3)) 2 ((((fa 2) * 2) / 3) + ((fa 1) - (((fa 1) * 1) / 3)))) 1 (((fa 1) * 1) / 3)) 1 ((((fa 1) * 1) / 3) + ((fa 0) - (((fa 0) * 0) / 3)))))))] H := hP
      have hD : va_D A [(m0, .inr (11, oX11 ra x0)), (ra 15, .inl (kJ, 24, .inr (.inl (vp_updL (vp_updL (vp_updL (vp_updL (vp_updL fa 3 ((fa 3) + ((fa 2) - (((fa 2) * 2) / 3)))) 2 (((fa 2) * 2) / 3)) 2 ((((fa 2) * 2) / 3) + ((fa 1) - (((fa 1) * 1) / 3)))) 1 (((fa 1) * 1) / 3)) 1 ((((fa 1) * 1) / 3) + ((fa 0) - (((fa 0) * 0) / 3)))))))] := hD
      refine lv_aload_n hx hb dX11_missingOf_85 rfl (lv_at hl 3 rfl) ?_
      refine va_get (D := (dC, dI)) (ci := 11) (v := .ref (ra 15)) (C := RX11) (T := TX11) (N := 61) hx hb hts hin11 hown hK hP 0 rfl rfl 32 (by decide) (hts (.fieldLink RX11 79 "PathProberModel" "met" "[J") (List.mem_of_getElem? (i := 1) (by decide +kernel))) (fun _ h9 => h9) rfl dX11_missingOf_86 ?_
      refine lv_iload hx hb dX11_missingOf_89 (lv_at hl 1 rfl) ?_
      refine lv_lload hx hb dX11_missingOf_91 (lv_at hl 0 rfl) ?_
      refine va_last hx hb hK hP hD hS 1 2 rfl rfl (vp_in_nI (n := 0) (by decide) (by decide)) dX11_missingOf_93 (fun H locs hP hD hS => ?_)
      have hP : va_P (dC, dI) vwCl [(m0, .inr (11, oX11 ra x0)), (ra 15, .inl (kJ, 24, .inr (.inl (vp_updL (vp_updL (vp_updL (vp_updL (vp_updL (vp_updL fa 3 ((fa 3) + ((fa 2) - (((fa 2) * 2) / 3)))) 2 (((fa 2) * 2) / 3)) 2 ((((fa 2) * 2) / 3) + ((fa 1) - (((fa 1) * 1) / 3)))) 1 (((fa 1) * 1) / 3)) 1 ((((fa 1) * 1) / 3) + ((fa 0) - (((fa 0) * 0) / 3)))) 0 (((fa 0) * 0) / 3)))))] H := hP
      have hD : va_D A [(m0, .inr (11, oX11 ra x0)), (ra 15, .inl (kJ, 24, .inr (.inl (vp_updL (vp_updL (vp_updL (vp_updL (vp_updL (vp_updL fa 3 ((fa 3) + ((fa 2) - (((fa 2) * 2) / 3)))) 2 (((fa 2) * 2) / 3)) 2 ((((fa 2) * 2) / 3) + ((fa 1) - (((fa 1) * 1) / 3)))) 1 (((fa 1) * 1) / 3)) 1 ((((fa 1) * 1) / 3) + ((fa 0) - (((fa 0) * 0) / 3)))) 0 (((fa 0) * 0) / 3)))))] := hD
      refine lv_iinc (v := (-1)) (lv' := [(4, .int (-1)), (5, .long (((fa 0) * 0) / 3)), (3, .int (nI i)), (0, .ref m0), (1, .int (nI k)), (2, .int 3)]) hx hb dX11_missingOf_94 hl (k := 1) rfl (by decide) (by decide) rfl (fun ls hl => ?_)
      refine lv_goto (tgt := 42) hx hb dX11_missingOf_97 (by decide) ?_
      refine lv_iload hx hb dX11_missingOf_42 (lv_at hl 0 rfl) ?_
      refine lv_if_lt (tgt := 100) hx hb dX11_missingOf_44 (by decide) (fun _ => ?_) (fun c9 => absurd (by decide) c9)
      refine lv_iinc (v := nI (i + 1)) (lv' := [(3, .int (nI (i + 1))), (4, .int (-1)), (5, .long (((fa 0) * 0) / 3)), (0, .ref m0), (1, .int (nI k)), (2, .int 3)]) hx hb dX11_missingOf_100 hl (k := 2) rfl (nI_1 i) (by decide) rfl (fun ls hl => ?_)
      refine lv_goto (tgt := 32) hx hb dX11_missingOf_103 (by decide) ?_
      exact ih (i + 1) (vp_updL (vp_updL (vp_updL (vp_updL (vp_updL (vp_updL fa 3 ((fa 3) + ((fa 2) - (((fa 2) * 2) / 3)))) 2 (((fa 2) * 2) / 3)) 2 ((((fa 2) * 2) / 3) + ((fa 1) - (((fa 1) * 1) / 3)))) 1 (((fa 1) * 1) / 3)) 1 ((((fa 1) * 1) / 3) + ((fa 0) - (((fa 0) * 0) / 3)))) 0 (((fa 0) * 0) / 3)) _ _ _ (by omega) (Eq.trans (show ((vp_updL (vp_updL (vp_updL (vp_updL (vp_updL (vp_updL fa 3 ((fa 3) + ((fa 2) - (((fa 2) * 2) / 3)))) 2 (((fa 2) * 2) / 3)) 2 ((((fa 2) * 2) / 3) + ((fa 1) - (((fa 1) * 1) / 3)))) 1 (((fa 1) * 1) / 3)) 1 ((((fa 1) * 1) / 3) + ((fa 0) - (((fa 0) * 0) / 3)))) 0 (((fa 0) * 0) / 3))) 0 = fa 0 * 0 / 3 from rfl) (by rw [hf0]; exact kvs3_0 i (by omega))) (Eq.trans (show ((vp_updL (vp_updL (vp_updL (vp_updL (vp_updL (vp_updL fa 3 ((fa 3) + ((fa 2) - (((fa 2) * 2) / 3)))) 2 (((fa 2) * 2) / 3)) 2 ((((fa 2) * 2) / 3) + ((fa 1) - (((fa 1) * 1) / 3)))) 1 (((fa 1) * 1) / 3)) 1 ((((fa 1) * 1) / 3) + ((fa 0) - (((fa 0) * 0) / 3)))) 0 (((fa 0) * 0) / 3))) 1 = fa 1 * 1 / 3 + (fa 0 - fa 0 * 0 / 3) from rfl) (by rw [hf0, hf1]; exact kvs3_1 i (by omega))) (Eq.trans (show ((vp_updL (vp_updL (vp_updL (vp_updL (vp_updL (vp_updL fa 3 ((fa 3) + ((fa 2) - (((fa 2) * 2) / 3)))) 2 (((fa 2) * 2) / 3)) 2 ((((fa 2) * 2) / 3) + ((fa 1) - (((fa 1) * 1) / 3)))) 1 (((fa 1) * 1) / 3)) 1 ((((fa 1) * 1) / 3) + ((fa 0) - (((fa 0) * 0) / 3)))) 0 (((fa 0) * 0) / 3))) 2 = fa 2 * 2 / 3 + (fa 1 - fa 1 * 1 / 3) from rfl) (by rw [hf1, hf2]; exact kvs3_2 i (by omega))) (Eq.trans (show ((vp_updL (vp_updL (vp_updL (vp_updL (vp_updL (vp_updL fa 3 ((fa 3) + ((fa 2) - (((fa 2) * 2) / 3)))) 2 (((fa 2) * 2) / 3)) 2 ((((fa 2) * 2) / 3) + ((fa 1) - (((fa 1) * 1) / 3)))) 1 (((fa 1) * 1) / 3)) 1 ((((fa 1) * 1) / 3) + ((fa 0) - (((fa 0) * 0) / 3)))) 0 (((fa 0) * 0) / 3))) 3 = fa 3 + (fa 2 - fa 2 * 2 / 3) from rfl) (by rw [hf2, hf3]; exact kvs3_3 i (by omega))) (hP.sub [0, 1] rfl) (hD.sub [0, 1] (by decide) rfl) hS (lv_sub hl [0, 3, 4, 5] rfl)
  exact hloop32 k 0 (vp_updL (vp_updL (vp_updL (vp_updL f1 0 1000000000000) 1 0) 2 0) 3 0) _ _ _ (Nat.zero_add _) (rfl) (rfl) (rfl) (rfl) hP hD hS (lv_sub hl [0, 1, 2, 3] rfl)
