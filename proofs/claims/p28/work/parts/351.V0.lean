def rm_s8_hasRoomFor_no : Room := { frames := 0, cells := 0, slots := 0, locals := 0 }
set_option maxHeartbeats 4000000 in
set_option maxRecDepth 100000 in
theorem s8_hasRoomFor_no (l : Launch) (dC : Nat → ClassId) (dI : Nat → Nat → Nat) (kB kI kJ kZ kC kS : ClassId) (sz : Nat) (ot : Nat) (t_bytes : Nat) (x_t : Nat → Int32) (hx_t : fI lX8 hX8 x_t) (hfl : iv 681 700 (x_t 0)) : Met l yX8_hasRoomFor wsX8_hasRoomFor rm_s8_hasRoomFor_no (va_Pc [.ref ot, .int 20] (fun U => U.heap.size = sz ∧ va_P (dC, dI) vwCl [(ot, .inr (8, oX8 t_bytes x_t))] U.heap ∧ kE dC dI kB kI kJ kZ kC kS U ∧ va_D (fun _ => True) [(ot, .inr (8, oX8 t_bytes x_t))])) (va_Qi (fun (r : Int32) (_ : Unit) => iv 0 0 r) (fun _ t => va_P (dC, dI) vwCl [(ot, .inr (8, oX8 t_bytes x_t))] t.heap ∧ va_D (va_A [(ot, .inr (8, oX8 t_bytes x_t))] sz) [(ot, .inr (8, oX8 t_bytes x_t))]) (va_A [(ot, .inr (8, oX8 t_bytes x_t))] sz)) 0 0 (va_A [(ot, .inr (8, oX8 t_bytes x_t))] sz) := by
  refine Met.ofW (cc := cX8_hasRoomFor) (maxL := 2) (ret := (some .boolean)) (by decide) rfl ?_
  intro p e s m args0 below meth c s₁ B hml hv
  obtain ⟨hargs, hsz, hP, hE, hD0⟩ := hv
  have hx := B.exec
  have hb := B.bytes
  have hr := B.returns
  have hts := atoms_spec (ws := wsX8_hasRoomFor) B.pre
  have hown : s.vm.findClass RX8 = some m.cls := findClass_of_methodNamed B.named
  have hlocks := B.notSynchronized
  have hK := hE.1
  have hin8 : ∀ w ∈ wsX80, w ∈ wsX8_hasRoomFor := fun _ h9 => List.mem_cons_of_mem _ (List.mem_append_right _ h9)
  have hw_0 := hts (.fieldLink RX8 15 "PathProber$Tape" "length" "I") (List.mem_of_getElem? (i := 1) rfl)
  subst hsz
  have hD := hD0.self (sz := s.heap.size)
  generalize hAe : va_A [(ot, .inr (8, oX8 t_bytes x_t))] s.heap.size = A at hD ⊢
  have hA : ∀ q : Nat, s.heap.size ≤ q → A q := fun q h => by rw [← hAe]; exact Or.inr h
  have hS : va_S A s.heap s.heap [] := va_S.rf
  have hP : va_P (dC, dI) vwCl [(ot, .inr (8, oX8 t_bytes x_t))] s.heap := hP
  have hl := lv_entry ([.ref ot, .int 20]) (n := 2) (Nat.le_of_ble_eq_true rfl)
  have hla : entryFrame m args0 2 = entryFrame m ([.ref ot, .int 20] : List Value).toArray 2 := by rw [hargs]
  rw [hla, lg_entry_eq]
  generalize (lg_sl ([.ref ot, .int 20]) ++ List.replicate (2 - (lg_sl ([.ref ot, .int 20])).length) Slot.unset).toArray = ls at hl ⊢
  have hl : lv_has ls 2 [(0, .ref ot), (1, .int 20)] := hl
  refine lv_aload_n hx hb dX8_hasRoomFor_0 rfl (lv_at hl 0 rfl) ?_
  refine va_get (D := (dC, dI)) (ci := 8) (v := .int (x_t 0)) (C := RX8) (T := TX8) (N := 2) hx hb hts hin8 hown hK hP 0 rfl rfl 1 (Nat.le_of_ble_eq_true rfl) hw_0 (fun _ h9 => h9) rfl dX8_hasRoomFor_1 ?_
  refine lv_iload_n hx hb dX8_hasRoomFor_4 rfl (lv_at hl 1 rfl) ?_
  refine lv_iadd hx hb dX8_hasRoomFor_5 ?_
  refine iv_top (a := 701) (b := 720) (iv_add hfl ivk_20 (by decide) (by decide) (by decide) (by decide)) (fun z1 b2 => ?_)
  refine lv_sipush (v := 700) hx hb dX8_hasRoomFor_6 (by decide) ?_
  refine lv_icmp_gt (tgt := 16) hx hb dX8_hasRoomFor_9 rfl (fun _ => ?_) (fun c9 => absurd (iv_lt ivk_700 b2 (by decide)) c9)
  refine lv_iconst (v := 0) hx hb dX8_hasRoomFor_16 ic_0 ?_
  have hP9 := hP
  have hD9 := hD
  exact W.zret (v := 0) (ty := .boolean) hx hb hr rfl (fun t ht hW => ⟨⟨0, (), rfl, ivk_0, by rw [ht]; exact hP9, hD9⟩, hS.F ht⟩) hS.2.2 dX8_hasRoomFor_17
def rm_s8_hasRoomFor_yes : Room := { frames := 0, cells := 0, slots := 0, locals := 0 }
set_option maxHeartbeats 4000000 in
set_option maxRecDepth 100000 in
theorem s8_hasRoomFor_yes (l : Launch) (dC : Nat → ClassId) (dI : Nat → Nat → Nat) (kB kI kJ kZ kC kS : ClassId) (sz : Nat) (ot : Nat) (t_bytes : Nat) (x_t : Nat → Int32) (hx_t : fI lX8 hX8 x_t) (hfl : iv 0 680 (x_t 0)) : Met l yX8_hasRoomFor wsX8_hasRoomFor rm_s8_hasRoomFor_yes (va_Pc [.ref ot, .int 20] (fun U => U.heap.size = sz ∧ va_P (dC, dI) vwCl [(ot, .inr (8, oX8 t_bytes x_t))] U.heap ∧ kE dC dI kB kI kJ kZ kC kS U ∧ va_D (fun _ => True) [(ot, .inr (8, oX8 t_bytes x_t))])) (va_Qi (fun (r : Int32) (_ : Unit) => iv 1 1 r) (fun _ t => va_P (dC, dI) vwCl [(ot, .inr (8, oX8 t_bytes x_t))] t.heap ∧ va_D (va_A [(ot, .inr (8, oX8 t_bytes x_t))] sz) [(ot, .inr (8, oX8 t_bytes x_t))]) (va_A [(ot, .inr (8, oX8 t_bytes x_t))] sz)) 0 0 (va_A [(ot, .inr (8, oX8 t_bytes x_t))] sz) := by
  refine Met.ofW (cc := cX8_hasRoomFor) (maxL := 2) (ret := (some .boolean)) (by decide) rfl ?_
  intro p e s m args0 below meth c s₁ B hml hv
  obtain ⟨hargs, hsz, hP, hE, hD0⟩ := hv
  have hx := B.exec
  have hb := B.bytes
  have hr := B.returns
  have hts := atoms_spec (ws := wsX8_hasRoomFor) B.pre
  have hown : s.vm.findClass RX8 = some m.cls := findClass_of_methodNamed B.named
  have hlocks := B.notSynchronized
  have hK := hE.1
  have hin8 : ∀ w ∈ wsX80, w ∈ wsX8_hasRoomFor := fun _ h9 => List.mem_cons_of_mem _ (List.mem_append_right _ h9)
  have hw_0 := hts (.fieldLink RX8 15 "PathProber$Tape" "length" "I") (List.mem_of_getElem? (i := 1) rfl)
  subst hsz
  have hD := hD0.self (sz := s.heap.size)
  generalize hAe : va_A [(ot, .inr (8, oX8 t_bytes x_t))] s.heap.size = A at hD ⊢
  have hA : ∀ q : Nat, s.heap.size ≤ q → A q := fun q h => by rw [← hAe]; exact Or.inr h
  have hS : va_S A s.heap s.heap [] := va_S.rf
  have hP : va_P (dC, dI) vwCl [(ot, .inr (8, oX8 t_bytes x_t))] s.heap := hP
  have hl := lv_entry ([.ref ot, .int 20]) (n := 2) (Nat.le_of_ble_eq_true rfl)
  have hla : entryFrame m args0 2 = entryFrame m ([.ref ot, .int 20] : List Value).toArray 2 := by rw [hargs]
  rw [hla, lg_entry_eq]
  generalize (lg_sl ([.ref ot, .int 20]) ++ List.replicate (2 - (lg_sl ([.ref ot, .int 20])).length) Slot.unset).toArray = ls at hl ⊢
  have hl : lv_has ls 2 [(0, .ref ot), (1, .int 20)] := hl
  refine lv_aload_n hx hb dX8_hasRoomFor_0 rfl (lv_at hl 0 rfl) ?_
  refine va_get (D := (dC, dI)) (ci := 8) (v := .int (x_t 0)) (C := RX8) (T := TX8) (N := 2) hx hb hts hin8 hown hK hP 0 rfl rfl 1 (Nat.le_of_ble_eq_true rfl) hw_0 (fun _ h9 => h9) rfl dX8_hasRoomFor_1 ?_
  refine lv_iload_n hx hb dX8_hasRoomFor_4 rfl (lv_at hl 1 rfl) ?_
  refine lv_iadd hx hb dX8_hasRoomFor_5 ?_
  refine iv_top (a := 20) (b := 700) (iv_add hfl ivk_20 (by decide) (by decide) (by decide) (by decide)) (fun z1 b2 => ?_)
  refine lv_sipush (v := 700) hx hb dX8_hasRoomFor_6 (by decide) ?_
  refine lv_icmp_gt (tgt := 16) hx hb dX8_hasRoomFor_9 rfl (fun c9 => absurd c9 (iv_nlt ivk_700 b2 (by decide))) (fun _ => ?_)
  refine lv_iconst (v := 1) hx hb dX8_hasRoomFor_12 ic_1 ?_
  refine lv_goto (tgt := 17) hx hb dX8_hasRoomFor_13 rfl ?_
  have hP9 := hP
  have hD9 := hD
  exact W.zret (v := 1) (ty := .boolean) hx hb hr rfl (fun t ht hW => ⟨⟨1, (), rfl, ivk_1, by rw [ht]; exact hP9, hD9⟩, hS.F ht⟩) hS.2.2 dX8_hasRoomFor_17
def rm_s8_hasRoomFor_4 : Room := { frames := 0, cells := 0, slots := 0, locals := 0 }
set_option maxHeartbeats 4000000 in
set_option maxRecDepth 100000 in
theorem s8_hasRoomFor_4 (l : Launch) (dC : Nat → ClassId) (dI : Nat → Nat → Nat) (kB kI kJ kZ kC kS : ClassId) (sz : Nat) (ot : Nat) (t_bytes : Nat) (x_t : Nat → Int32) (hx_t : fI lX8 hX8 x_t) (hfl : iv 0 696 (x_t 0)) : Met l yX8_hasRoomFor wsX8_hasRoomFor rm_s8_hasRoomFor_4 (va_Pc [.ref ot, .int 4] (fun U => U.heap.size = sz ∧ va_P (dC, dI) vwCl [(ot, .inr (8, oX8 t_bytes x_t))] U.heap ∧ kE dC dI kB kI kJ kZ kC kS U ∧ va_D (fun _ => True) [(ot, .inr (8, oX8 t_bytes x_t))])) (va_Qi (fun (r : Int32) (_ : Unit) => iv 1 1 r) (fun _ t => va_P (dC, dI) vwCl [(ot, .inr (8, oX8 t_bytes x_t))] t.heap ∧ va_D (va_A [(ot, .inr (8, oX8 t_bytes x_t))] sz) [(ot, .inr (8, oX8 t_bytes x_t))]) (va_A [(ot, .inr (8, oX8 t_bytes x_t))] sz)) 0 0 (va_A [(ot, .inr (8, oX8 t_bytes x_t))] sz) := by
  refine Met.ofW (cc := cX8_hasRoomFor) (maxL := 2) (ret := (some .boolean)) (by decide) rfl ?_
  intro p e s m args0 below meth c s₁ B hml hv
  obtain ⟨hargs, hsz, hP, hE, hD0⟩ := hv
  have hx := B.exec
  have hb := B.bytes
  have hr := B.returns
  have hts := atoms_spec (ws := wsX8_hasRoomFor) B.pre
  have hown : s.vm.findClass RX8 = some m.cls := findClass_of_methodNamed B.named
  have hlocks := B.notSynchronized
  have hK := hE.1
  have hin8 : ∀ w ∈ wsX80, w ∈ wsX8_hasRoomFor := fun _ h9 => List.mem_cons_of_mem _ (List.mem_append_right _ h9)
  have hw_0 := hts (.fieldLink RX8 15 "PathProber$Tape" "length" "I") (List.mem_of_getElem? (i := 1) rfl)
  subst hsz
  have hD := hD0.self (sz := s.heap.size)
  generalize hAe : va_A [(ot, .inr (8, oX8 t_bytes x_t))] s.heap.size = A at hD ⊢
  have hA : ∀ q : Nat, s.heap.size ≤ q → A q := fun q h => by rw [← hAe]; exact Or.inr h
  have hS : va_S A s.heap s.heap [] := va_S.rf
  have hP : va_P (dC, dI) vwCl [(ot, .inr (8, oX8 t_bytes x_t))] s.heap := hP
  have hl := lv_entry ([.ref ot, .int 4]) (n := 2) (Nat.le_of_ble_eq_true rfl)
  have hla : entryFrame m args0 2 = entryFrame m ([.ref ot, .int 4] : List Value).toArray 2 := by rw [hargs]
  rw [hla, lg_entry_eq]
  generalize (lg_sl ([.ref ot, .int 4]) ++ List.replicate (2 - (lg_sl ([.ref ot, .int 4])).length) Slot.unset).toArray = ls at hl ⊢
  have hl : lv_has ls 2 [(0, .ref ot), (1, .int 4)] := hl
  refine lv_aload_n hx hb dX8_hasRoomFor_0 rfl (lv_at hl 0 rfl) ?_
  refine va_get (D := (dC, dI)) (ci := 8) (v := .int (x_t 0)) (C := RX8) (T := TX8) (N := 2) hx hb hts hin8 hown hK hP 0 rfl rfl 1 (Nat.le_of_ble_eq_true rfl) hw_0 (fun _ h9 => h9) rfl dX8_hasRoomFor_1 ?_
  refine lv_iload_n hx hb dX8_hasRoomFor_4 rfl (lv_at hl 1 rfl) ?_
  refine lv_iadd hx hb dX8_hasRoomFor_5 ?_
  refine iv_top (a := 4) (b := 700) (iv_add hfl ivk_4 (by decide) (by decide) (by decide) (by decide)) (fun z1 b2 => ?_)
  refine lv_sipush (v := 700) hx hb dX8_hasRoomFor_6 (by decide) ?_
  refine lv_icmp_gt (tgt := 16) hx hb dX8_hasRoomFor_9 rfl (fun c9 => absurd c9 (iv_nlt ivk_700 b2 (by decide))) (fun _ => ?_)
  refine lv_iconst (v := 1) hx hb dX8_hasRoomFor_12 ic_1 ?_
  refine lv_goto (tgt := 17) hx hb dX8_hasRoomFor_13 rfl ?_
  have hP9 := hP
  have hD9 := hD
  exact W.zret (v := 1) (ty := .boolean) hx hb hr rfl (fun t ht hW => ⟨⟨1, (), rfl, ivk_1, by rw [ht]; exact hP9, hD9⟩, hS.F ht⟩) hS.2.2 dX8_hasRoomFor_17
