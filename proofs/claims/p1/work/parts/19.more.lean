def rm_k8_room_0_20 : Room := { frames := 0, cells := 0, slots := 0, locals := 0 }
set_option maxHeartbeats 4000000 in
set_option maxRecDepth 100000 in
theorem k8_room_0_20 (l : Launch) (dC : Nat → ClassId) (dI : Nat → Nat → Nat) (kB kI kJ kZ kC kS : ClassId) (sz : Nat) (xa1 : Nat) (xa2 : Nat) : Met l yX8_hasRoomFor wsX8_hasRoomFor rm_k8_room_0_20 (va_Pc [.ref xa1, .int 20] (fun U => U.heap.size = sz ∧ va_P (dC, dI) vwCl [(xa1, .inr (8, [.ref xa2, .int 0]))] U.heap ∧ kE dC dI kB kI kJ kZ kC kS U ∧ va_D (fun _ => True) [(xa1, .inr (8, [.ref xa2, .int 0]))])) (va_Qi (fun (r : Int32) (_ : Unit) => r = 1) (fun _ t => va_P (dC, dI) vwCl [(xa1, .inr (8, [.ref xa2, .int 0]))] t.heap ∧ va_D (va_A [(xa1, .inr (8, [.ref xa2, .int 0]))] sz) [(xa1, .inr (8, [.ref xa2, .int 0]))]) (va_A [(xa1, .inr (8, [.ref xa2, .int 0]))] sz)) 0 0 (va_A [(xa1, .inr (8, [.ref xa2, .int 0]))] sz) := by
  refine Met.ofW (cc := cX8_hasRoomFor) (maxL := 2) (ret := (some .boolean)) (by decide) rfl ?_
  intro p e s m args0 below meth c s₁ B hml hv
  obtain ⟨hargs, hsz, hP, hE, hD0⟩ := hv
  have hx := B.exec
  have hb := B.bytes
  have hr := B.returns
  have hts := atoms_spec (ws := wsX8_hasRoomFor) B.pre
  have hown : s.vm.findClass RX8 = some m.cls := findClass_of_methodNamed B.named
  have hlocks := B.notSynchronized
  have hK := hE.1
  have hin8 : ∀ w ∈ wsX80, w ∈ wsX8_hasRoomFor := fun _ h9 => List.mem_cons_of_mem _ (List.mem_append_right _ h9)
  subst hsz
  have hD := hD0.self (sz := s.heap.size)
  generalize hAe : va_A [(xa1, .inr (8, [.ref xa2, .int 0]))] s.heap.size = A at hD ⊢
  have hA : ∀ q : Nat, s.heap.size ≤ q → A q := fun q h => by rw [← hAe]; exact Or.inr h
  have hS : va_S A s.heap s.heap [] := va_S.rf
  have hP : va_P (dC, dI) vwCl [(xa1, .inr (8, [.ref xa2, .int 0]))] s.heap := hP
  have hl := lv_entry ([.ref xa1, .int 20]) (n := 2) (Nat.le_of_ble_eq_true rfl)
  have hla : entryFrame m args0 2 = entryFrame m ([.ref xa1, .int 20] : List Value).toArray 2 := by rw [hargs]
  rw [hla, lg_entry_eq]
  generalize (lg_sl ([.ref xa1, .int 20]) ++ List.replicate (2 - (lg_sl ([.ref xa1, .int 20])).length) Slot.unset).toArray = ls at hl ⊢
  have hl : lv_has ls 2 [(0, .ref xa1), (1, .int 20)] := hl
  refine lv_aload_n hx hb dX8_hasRoomFor_0 rfl (lv_at hl 0 rfl) ?_
  refine va_get (D := (dC, dI)) (ci := 8) (v := .int 0) (C := RX8) (T := TX8) (N := 2) hx hb hts hin8 hown hK hP 0 rfl rfl 1 (by decide) (hts (.fieldLink RX8 15 "PathProber$Tape" "length" "I") (List.mem_of_getElem? (i := 1) (by decide +kernel))) (fun _ h9 => h9) rfl dX8_hasRoomFor_1 ?_
  refine lv_iload_n hx hb dX8_hasRoomFor_4 rfl (lv_at hl 1 rfl) ?_
  refine lv_iadd hx hb dX8_hasRoomFor_5 ?_
  refine lv_topi (fun z1 e2 => ?_)
  obtain rfl : z1 = (20 : Int32) := e2.trans (by decide)
  refine lv_sipush (v := 700) hx hb dX8_hasRoomFor_6 (by decide) ?_
  refine lv_icmp_gt (tgt := 16) hx hb dX8_hasRoomFor_9 (by decide) (fun c9 => absurd c9 (by decide)) (fun _ => ?_)
  refine lv_iconst (v := 1) hx hb dX8_hasRoomFor_12 (by decide) ?_
  refine lv_goto (tgt := 17) hx hb dX8_hasRoomFor_13 (by decide) ?_
  have hP9 := hP.sub (ws' := [(xa1, .inr (8, [.ref xa2, .int 0]))]) [0] rfl
  have hD9 := hD.sub (ws' := [(xa1, .inr (8, [.ref xa2, .int 0]))]) [0] (by decide) rfl
  exact W.zret (v := 1) (ty := .boolean) hx hb hr rfl (fun t ht hW => ⟨⟨1, (), rfl, rfl, by rw [ht]; exact hP9, hD9⟩, hS.F ht⟩) hS.2.2 dX8_hasRoomFor_17
def rm_k8_room_0_4 : Room := { frames := 0, cells := 0, slots := 0, locals := 0 }
set_option maxHeartbeats 4000000 in
set_option maxRecDepth 100000 in
theorem k8_room_0_4 (l : Launch) (dC : Nat → ClassId) (dI : Nat → Nat → Nat) (kB kI kJ kZ kC kS : ClassId) (sz : Nat) (xa1 : Nat) (xa2 : Nat) : Met l yX8_hasRoomFor wsX8_hasRoomFor rm_k8_room_0_4 (va_Pc [.ref xa1, .int 4] (fun U => U.heap.size = sz ∧ va_P (dC, dI) vwCl [(xa1, .inr (8, [.ref xa2, .int 0]))] U.heap ∧ kE dC dI kB kI kJ kZ kC kS U ∧ va_D (fun _ => True) [(xa1, .inr (8, [.ref xa2, .int 0]))])) (va_Qi (fun (r : Int32) (_ : Unit) => r = 1) (fun _ t => va_P (dC, dI) vwCl [(xa1, .inr (8, [.ref xa2, .int 0]))] t.heap ∧ va_D (va_A [(xa1, .inr (8, [.ref xa2, .int 0]))] sz) [(xa1, .inr (8, [.ref xa2, .int 0]))]) (va_A [(xa1, .inr (8, [.ref xa2, .int 0]))] sz)) 0 0 (va_A [(xa1, .inr (8, [.ref xa2, .int 0]))] sz) := by
  refine Met.ofW (cc := cX8_hasRoomFor) (maxL := 2) (ret := (some .boolean)) (by decide) rfl ?_
  intro p e s m args0 below meth c s₁ B hml hv
  obtain ⟨hargs, hsz, hP, hE, hD0⟩ := hv
  have hx := B.exec
  have hb := B.bytes
  have hr := B.returns
  have hts := atoms_spec (ws := wsX8_hasRoomFor) B.pre
  have hown : s.vm.findClass RX8 = some m.cls := findClass_of_methodNamed B.named
  have hlocks := B.notSynchronized
  have hK := hE.1
  have hin8 : ∀ w ∈ wsX80, w ∈ wsX8_hasRoomFor := fun _ h9 => List.mem_cons_of_mem _ (List.mem_append_right _ h9)
  subst hsz
  have hD := hD0.self (sz := s.heap.size)
  generalize hAe : va_A [(xa1, .inr (8, [.ref xa2, .int 0]))] s.heap.size = A at hD ⊢
  have hA : ∀ q : Nat, s.heap.size ≤ q → A q := fun q h => by rw [← hAe]; exact Or.inr h
  have hS : va_S A s.heap s.heap [] := va_S.rf
  have hP : va_P (dC, dI) vwCl [(xa1, .inr (8, [.ref xa2, .int 0]))] s.heap := hP
  have hl := lv_entry ([.ref xa1, .int 4]) (n := 2) (Nat.le_of_ble_eq_true rfl)
  have hla : entryFrame m args0 2 = entryFrame m ([.ref xa1, .int 4] : List Value).toArray 2 := by rw [hargs]
  rw [hla, lg_entry_eq]
  generalize (lg_sl ([.ref xa1, .int 4]) ++ List.replicate (2 - (lg_sl ([.ref xa1, .int 4])).length) Slot.unset).toArray = ls at hl ⊢
  have hl : lv_has ls 2 [(0, .ref xa1), (1, .int 4)] := hl
  refine lv_aload_n hx hb dX8_hasRoomFor_0 rfl (lv_at hl 0 rfl) ?_
  refine va_get (D := (dC, dI)) (ci := 8) (v := .int 0) (C := RX8) (T := TX8) (N := 2) hx hb hts hin8 hown hK hP 0 rfl rfl 1 (by decide) (hts (.fieldLink RX8 15 "PathProber$Tape" "length" "I") (List.mem_of_getElem? (i := 1) (by decide +kernel))) (fun _ h9 => h9) rfl dX8_hasRoomFor_1 ?_
  refine lv_iload_n hx hb dX8_hasRoomFor_4 rfl (lv_at hl 1 rfl) ?_
  refine lv_iadd hx hb dX8_hasRoomFor_5 ?_
  refine lv_topi (fun z1 e2 => ?_)
  obtain rfl : z1 = (4 : Int32) := e2.trans (by decide)
  refine lv_sipush (v := 700) hx hb dX8_hasRoomFor_6 (by decide) ?_
  refine lv_icmp_gt (tgt := 16) hx hb dX8_hasRoomFor_9 (by decide) (fun c9 => absurd c9 (by decide)) (fun _ => ?_)
  refine lv_iconst (v := 1) hx hb dX8_hasRoomFor_12 (by decide) ?_
  refine lv_goto (tgt := 17) hx hb dX8_hasRoomFor_13 (by decide) ?_
  have hP9 := hP.sub (ws' := [(xa1, .inr (8, [.ref xa2, .int 0]))]) [0] rfl
  have hD9 := hD.sub (ws' := [(xa1, .inr (8, [.ref xa2, .int 0]))]) [0] (by decide) rfl
  exact W.zret (v := 1) (ty := .boolean) hx hb hr rfl (fun t ht hW => ⟨⟨1, (), rfl, rfl, by rw [ht]; exact hP9, hD9⟩, hS.F ht⟩) hS.2.2 dX8_hasRoomFor_17
def rm_k8_room_4_4 : Room := { frames := 0, cells := 0, slots := 0, locals := 0 }
set_option maxHeartbeats 4000000 in
set_option maxRecDepth 100000 in
theorem k8_room_4_4 (l : Launch) (dC : Nat → ClassId) (dI : Nat → Nat → Nat) (kB kI kJ kZ kC kS : ClassId) (sz : Nat) (xa1 : Nat) (xa2 : Nat) : Met l yX8_hasRoomFor wsX8_hasRoomFor rm_k8_room_4_4 (va_Pc [.ref xa1, .int 4] (fun U => U.heap.size = sz ∧ va_P (dC, dI) vwCl [(xa1, .inr (8, [.ref xa2, .int 4]))] U.heap ∧ kE dC dI kB kI kJ kZ kC kS U ∧ va_D (fun _ => True) [(xa1, .inr (8, [.ref xa2, .int 4]))])) (va_Qi (fun (r : Int32) (_ : Unit) => r = 1) (fun _ t => va_P (dC, dI) vwCl [(xa1, .inr (8, [.ref xa2, .int 4]))] t.heap ∧ va_D (va_A [(xa1, .inr (8, [.ref xa2, .int 4]))] sz) [(xa1, .inr (8, [.ref xa2, .int 4]))]) (va_A [(xa1, .inr (8, [.ref xa2, .int 4]))] sz)) 0 0 (va_A [(xa1, .inr (8, [.ref xa2, .int 4]))] sz) := by
  refine Met.ofW (cc := cX8_hasRoomFor) (maxL := 2) (ret := (some .boolean)) (by decide) rfl ?_
  intro p e s m args0 below meth c s₁ B hml hv
  obtain ⟨hargs, hsz, hP, hE, hD0⟩ := hv
  have hx := B.exec
  have hb := B.bytes
  have hr := B.returns
  have hts := atoms_spec (ws := wsX8_hasRoomFor) B.pre
  have hown : s.vm.findClass RX8 = some m.cls := findClass_of_methodNamed B.named
  have hlocks := B.notSynchronized
  have hK := hE.1
  have hin8 : ∀ w ∈ wsX80, w ∈ wsX8_hasRoomFor := fun _ h9 => List.mem_cons_of_mem _ (List.mem_append_right _ h9)
  subst hsz
  have hD := hD0.self (sz := s.heap.size)
  generalize hAe : va_A [(xa1, .inr (8, [.ref xa2, .int 4]))] s.heap.size = A at hD ⊢
  have hA : ∀ q : Nat, s.heap.size ≤ q → A q := fun q h => by rw [← hAe]; exact Or.inr h
  have hS : va_S A s.heap s.heap [] := va_S.rf
  have hP : va_P (dC, dI) vwCl [(xa1, .inr (8, [.ref xa2, .int 4]))] s.heap := hP
  have hl := lv_entry ([.ref xa1, .int 4]) (n := 2) (Nat.le_of_ble_eq_true rfl)
  have hla : entryFrame m args0 2 = entryFrame m ([.ref xa1, .int 4] : List Value).toArray 2 := by rw [hargs]
  rw [hla, lg_entry_eq]
  generalize (lg_sl ([.ref xa1, .int 4]) ++ List.replicate (2 - (lg_sl ([.ref xa1, .int 4])).length) Slot.unset).toArray = ls at hl ⊢
  have hl : lv_has ls 2 [(0, .ref xa1), (1, .int 4)] := hl
  refine lv_aload_n hx hb dX8_hasRoomFor_0 rfl (lv_at hl 0 rfl) ?_
  refine va_get (D := (dC, dI)) (ci := 8) (v := .int 4) (C := RX8) (T := TX8) (N := 2) hx hb hts hin8 hown hK hP 0 rfl rfl 1 (by decide) (hts (.fieldLink RX8 15 "PathProber$Tape" "length" "I") (List.mem_of_getElem? (i := 1) (by decide +kernel))) (fun _ h9 => h9) rfl dX8_hasRoomFor_1 ?_
  refine lv_iload_n hx hb dX8_hasRoomFor_4 rfl (lv_at hl 1 rfl) ?_
  refine lv_iadd hx hb dX8_hasRoomFor_5 ?_
  refine lv_topi (fun z1 e2 => ?_)
  obtain rfl : z1 = (8 : Int32) := e2.trans (by decide)
  refine lv_sipush (v := 700) hx hb dX8_hasRoomFor_6 (by decide) ?_
  refine lv_icmp_gt (tgt := 16) hx hb dX8_hasRoomFor_9 (by decide) (fun c9 => absurd c9 (by decide)) (fun _ => ?_)
  refine lv_iconst (v := 1) hx hb dX8_hasRoomFor_12 (by decide) ?_
  refine lv_goto (tgt := 17) hx hb dX8_hasRoomFor_13 (by decide) ?_
  have hP9 := hP.sub (ws' := [(xa1, .inr (8, [.ref xa2, .int 4]))]) [0] rfl
  have hD9 := hD.sub (ws' := [(xa1, .inr (8, [.ref xa2, .int 4]))]) [0] (by decide) rfl
  exact W.zret (v := 1) (ty := .boolean) hx hb hr rfl (fun t ht hW => ⟨⟨1, (), rfl, rfl, by rw [ht]; exact hP9, hD9⟩, hS.F ht⟩) hS.2.2 dX8_hasRoomFor_17
def rm_k8_room_8_4 : Room := { frames := 0, cells := 0, slots := 0, locals := 0 }
set_option maxHeartbeats 4000000 in
set_option maxRecDepth 100000 in
theorem k8_room_8_4 (l : Launch) (dC : Nat → ClassId) (dI : Nat → Nat → Nat) (kB kI kJ kZ kC kS : ClassId) (sz : Nat) (xa1 : Nat) (xa2 : Nat) : Met l yX8_hasRoomFor wsX8_hasRoomFor rm_k8_room_8_4 (va_Pc [.ref xa1, .int 4] (fun U => U.heap.size = sz ∧ va_P (dC, dI) vwCl [(xa1, .inr (8, [.ref xa2, .int 8]))] U.heap ∧ kE dC dI kB kI kJ kZ kC kS U ∧ va_D (fun _ => True) [(xa1, .inr (8, [.ref xa2, .int 8]))])) (va_Qi (fun (r : Int32) (_ : Unit) => r = 1) (fun _ t => va_P (dC, dI) vwCl [(xa1, .inr (8, [.ref xa2, .int 8]))] t.heap ∧ va_D (va_A [(xa1, .inr (8, [.ref xa2, .int 8]))] sz) [(xa1, .inr (8, [.ref xa2, .int 8]))]) (va_A [(xa1, .inr (8, [.ref xa2, .int 8]))] sz)) 0 0 (va_A [(xa1, .inr (8, [.ref xa2, .int 8]))] sz) := by
  refine Met.ofW (cc := cX8_hasRoomFor) (maxL := 2) (ret := (some .boolean)) (by decide) rfl ?_
  intro p e s m args0 below meth c s₁ B hml hv
  obtain ⟨hargs, hsz, hP, hE, hD0⟩ := hv
  have hx := B.exec
  have hb := B.bytes
  have hr := B.returns
  have hts := atoms_spec (ws := wsX8_hasRoomFor) B.pre
  have hown : s.vm.findClass RX8 = some m.cls := findClass_of_methodNamed B.named
  have hlocks := B.notSynchronized
  have hK := hE.1
  have hin8 : ∀ w ∈ wsX80, w ∈ wsX8_hasRoomFor := fun _ h9 => List.mem_cons_of_mem _ (List.mem_append_right _ h9)
  subst hsz
  have hD := hD0.self (sz := s.heap.size)
  generalize hAe : va_A [(xa1, .inr (8, [.ref xa2, .int 8]))] s.heap.size = A at hD ⊢
  have hA : ∀ q : Nat, s.heap.size ≤ q → A q := fun q h => by rw [← hAe]; exact Or.inr h
  have hS : va_S A s.heap s.heap [] := va_S.rf
  have hP : va_P (dC, dI) vwCl [(xa1, .inr (8, [.ref xa2, .int 8]))] s.heap := hP
  have hl := lv_entry ([.ref xa1, .int 4]) (n := 2) (Nat.le_of_ble_eq_true rfl)
  have hla : entryFrame m args0 2 = entryFrame m ([.ref xa1, .int 4] : List Value).toArray 2 := by rw [hargs]
  rw [hla, lg_entry_eq]
  generalize (lg_sl ([.ref xa1, .int 4]) ++ List.replicate (2 - (lg_sl ([.ref xa1, .int 4])).length) Slot.unset).toArray = ls at hl ⊢
  have hl : lv_has ls 2 [(0, .ref xa1), (1, .int 4)] := hl
  refine lv_aload_n hx hb dX8_hasRoomFor_0 rfl (lv_at hl 0 rfl) ?_
  refine va_get (D := (dC, dI)) (ci := 8) (v := .int 8) (C := RX8) (T := TX8) (N := 2) hx hb hts hin8 hown hK hP 0 rfl rfl 1 (by decide) (hts (.fieldLink RX8 15 "PathProber$Tape" "length" "I") (List.mem_of_getElem? (i := 1) (by decide +kernel))) (fun _ h9 => h9) rfl dX8_hasRoomFor_1 ?_
  refine lv_iload_n hx hb dX8_hasRoomFor_4 rfl (lv_at hl 1 rfl) ?_
  refine lv_iadd hx hb dX8_hasRoomFor_5 ?_
  refine lv_topi (fun z1 e2 => ?_)
  obtain rfl : z1 = (12 : Int32) := e2.trans (by decide)
  refine lv_sipush (v := 700) hx hb dX8_hasRoomFor_6 (by decide) ?_
  refine lv_icmp_gt (tgt := 16) hx hb dX8_hasRoomFor_9 (by decide) (fun c9 => absurd c9 (by decide)) (fun _ => ?_)
  refine lv_iconst (v := 1) hx hb dX8_hasRoomFor_12 (by decide) ?_
  refine lv_goto (tgt := 17) hx hb dX8_hasRoomFor_13 (by decide) ?_
  have hP9 := hP.sub (ws' := [(xa1, .inr (8, [.ref xa2, .int 8]))]) [0] rfl
  have hD9 := hD.sub (ws' := [(xa1, .inr (8, [.ref xa2, .int 8]))]) [0] (by decide) rfl
  exact W.zret (v := 1) (ty := .boolean) hx hb hr rfl (fun t ht hW => ⟨⟨1, (), rfl, rfl, by rw [ht]; exact hP9, hD9⟩, hS.F ht⟩) hS.2.2 dX8_hasRoomFor_17
def rm_k8_room_12_4 : Room := { frames := 0, cells := 0, slots := 0, locals := 0 }
set_option maxHeartbeats 4000000 in
set_option maxRecDepth 100000 in
theorem k8_room_12_4 (l : Launch) (dC : Nat → ClassId) (dI : Nat → Nat → Nat) (kB kI kJ kZ kC kS : ClassId) (sz : Nat) (xa1 : Nat) (xa2 : Nat) : Met l yX8_hasRoomFor wsX8_hasRoomFor rm_k8_room_12_4 (va_Pc [.ref xa1, .int 4] (fun U => U.heap.size = sz ∧ va_P (dC, dI) vwCl [(xa1, .inr (8, [.ref xa2, .int 12]))] U.heap ∧ kE dC dI kB kI kJ kZ kC kS U ∧ va_D (fun _ => True) [(xa1, .inr (8, [.ref xa2, .int 12]))])) (va_Qi (fun (r : Int32) (_ : Unit) => r = 1) (fun _ t => va_P (dC, dI) vwCl [(xa1, .inr (8, [.ref xa2, .int 12]))] t.heap ∧ va_D (va_A [(xa1, .inr (8, [.ref xa2, .int 12]))] sz) [(xa1, .inr (8, [.ref xa2, .int 12]))]) (va_A [(xa1, .inr (8, [.ref xa2, .int 12]))] sz)) 0 0 (va_A [(xa1, .inr (8, [.ref xa2, .int 12]))] sz) := by
  refine Met.ofW (cc := cX8_hasRoomFor) (maxL := 2) (ret := (some .boolean)) (by decide) rfl ?_
  intro p e s m args0 below meth c s₁ B hml hv
  obtain ⟨hargs, hsz, hP, hE, hD0⟩ := hv
  have hx := B.exec
  have hb := B.bytes
  have hr := B.returns
  have hts := atoms_spec (ws := wsX8_hasRoomFor) B.pre
  have hown : s.vm.findClass RX8 = some m.cls := findClass_of_methodNamed B.named
  have hlocks := B.notSynchronized
  have hK := hE.1
  have hin8 : ∀ w ∈ wsX80, w ∈ wsX8_hasRoomFor := fun _ h9 => List.mem_cons_of_mem _ (List.mem_append_right _ h9)
  subst hsz
  have hD := hD0.self (sz := s.heap.size)
  generalize hAe : va_A [(xa1, .inr (8, [.ref xa2, .int 12]))] s.heap.size = A at hD ⊢
  have hA : ∀ q : Nat, s.heap.size ≤ q → A q := fun q h => by rw [← hAe]; exact Or.inr h
  have hS : va_S A s.heap s.heap [] := va_S.rf
  have hP : va_P (dC, dI) vwCl [(xa1, .inr (8, [.ref xa2, .int 12]))] s.heap := hP
  have hl := lv_entry ([.ref xa1, .int 4]) (n := 2) (Nat.le_of_ble_eq_true rfl)
  have hla : entryFrame m args0 2 = entryFrame m ([.ref xa1, .int 4] : List Value).toArray 2 := by rw [hargs]
  rw [hla, lg_entry_eq]
  generalize (lg_sl ([.ref xa1, .int 4]) ++ List.replicate (2 - (lg_sl ([.ref xa1, .int 4])).length) Slot.unset).toArray = ls at hl ⊢
  have hl : lv_has ls 2 [(0, .ref xa1), (1, .int 4)] := hl
  refine lv_aload_n hx hb dX8_hasRoomFor_0 rfl (lv_at hl 0 rfl) ?_
  refine va_get (D := (dC, dI)) (ci := 8) (v := .int 12) (C := RX8) (T := TX8) (N := 2) hx hb hts hin8 hown hK hP 0 rfl rfl 1 (by decide) (hts (.fieldLink RX8 15 "PathProber$Tape" "length" "I") (List.mem_of_getElem? (i := 1) (by decide +kernel))) (fun _ h9 => h9) rfl dX8_hasRoomFor_1 ?_
  refine lv_iload_n hx hb dX8_hasRoomFor_4 rfl (lv_at hl 1 rfl) ?_
  refine lv_iadd hx hb dX8_hasRoomFor_5 ?_
  refine lv_topi (fun z1 e2 => ?_)
  obtain rfl : z1 = (16 : Int32) := e2.trans (by decide)
  refine lv_sipush (v := 700) hx hb dX8_hasRoomFor_6 (by decide) ?_
  refine lv_icmp_gt (tgt := 16) hx hb dX8_hasRoomFor_9 (by decide) (fun c9 => absurd c9 (by decide)) (fun _ => ?_)
  refine lv_iconst (v := 1) hx hb dX8_hasRoomFor_12 (by decide) ?_
  refine lv_goto (tgt := 17) hx hb dX8_hasRoomFor_13 (by decide) ?_
  have hP9 := hP.sub (ws' := [(xa1, .inr (8, [.ref xa2, .int 12]))]) [0] rfl
  have hD9 := hD.sub (ws' := [(xa1, .inr (8, [.ref xa2, .int 12]))]) [0] (by decide) rfl
  exact W.zret (v := 1) (ty := .boolean) hx hb hr rfl (fun t ht hW => ⟨⟨1, (), rfl, rfl, by rw [ht]; exact hP9, hD9⟩, hS.F ht⟩) hS.2.2 dX8_hasRoomFor_17
def rm_k8_room_16_4 : Room := { frames := 0, cells := 0, slots := 0, locals := 0 }
set_option maxHeartbeats 4000000 in
set_option maxRecDepth 100000 in
theorem k8_room_16_4 (l : Launch) (dC : Nat → ClassId) (dI : Nat → Nat → Nat) (kB kI kJ kZ kC kS : ClassId) (sz : Nat) (xa1 : Nat) (xa2 : Nat) : Met l yX8_hasRoomFor wsX8_hasRoomFor rm_k8_room_16_4 (va_Pc [.ref xa1, .int 4] (fun U => U.heap.size = sz ∧ va_P (dC, dI) vwCl [(xa1, .inr (8, [.ref xa2, .int 16]))] U.heap ∧ kE dC dI kB kI kJ kZ kC kS U ∧ va_D (fun _ => True) [(xa1, .inr (8, [.ref xa2, .int 16]))])) (va_Qi (fun (r : Int32) (_ : Unit) => r = 1) (fun _ t => va_P (dC, dI) vwCl [(xa1, .inr (8, [.ref xa2, .int 16]))] t.heap ∧ va_D (va_A [(xa1, .inr (8, [.ref xa2, .int 16]))] sz) [(xa1, .inr (8, [.ref xa2, .int 16]))]) (va_A [(xa1, .inr (8, [.ref xa2, .int 16]))] sz)) 0 0 (va_A [(xa1, .inr (8, [.ref xa2, .int 16]))] sz) := by
  refine Met.ofW (cc := cX8_hasRoomFor) (maxL := 2) (ret := (some .boolean)) (by decide) rfl ?_
  intro p e s m args0 below meth c s₁ B hml hv
  obtain ⟨hargs, hsz, hP, hE, hD0⟩ := hv
  have hx := B.exec
  have hb := B.bytes
  have hr := B.returns
  have hts := atoms_spec (ws := wsX8_hasRoomFor) B.pre
  have hown : s.vm.findClass RX8 = some m.cls := findClass_of_methodNamed B.named
  have hlocks := B.notSynchronized
  have hK := hE.1
  have hin8 : ∀ w ∈ wsX80, w ∈ wsX8_hasRoomFor := fun _ h9 => List.mem_cons_of_mem _ (List.mem_append_right _ h9)
  subst hsz
  have hD := hD0.self (sz := s.heap.size)
  generalize hAe : va_A [(xa1, .inr (8, [.ref xa2, .int 16]))] s.heap.size = A at hD ⊢
  have hA : ∀ q : Nat, s.heap.size ≤ q → A q := fun q h => by rw [← hAe]; exact Or.inr h
  have hS : va_S A s.heap s.heap [] := va_S.rf
  have hP : va_P (dC, dI) vwCl [(xa1, .inr (8, [.ref xa2, .int 16]))] s.heap := hP
  have hl := lv_entry ([.ref xa1, .int 4]) (n := 2) (Nat.le_of_ble_eq_true rfl)
  have hla : entryFrame m args0 2 = entryFrame m ([.ref xa1, .int 4] : List Value).toArray 2 := by rw [hargs]
  rw [hla, lg_entry_eq]
  generalize (lg_sl ([.ref xa1, .int 4]) ++ List.replicate (2 - (lg_sl ([.ref xa1, .int 4])).length) Slot.unset).toArray = ls at hl ⊢
  have hl : lv_has ls 2 [(0, .ref xa1), (1, .int 4)] := hl
  refine lv_aload_n hx hb dX8_hasRoomFor_0 rfl (lv_at hl 0 rfl) ?_
  refine va_get (D := (dC, dI)) (ci := 8) (v := .int 16) (C := RX8) (T := TX8) (N := 2) hx hb hts hin8 hown hK hP 0 rfl rfl 1 (by decide) (hts (.fieldLink RX8 15 "PathProber$Tape" "length" "I") (List.mem_of_getElem? (i := 1) (by decide +kernel))) (fun _ h9 => h9) rfl dX8_hasRoomFor_1 ?_
  refine lv_iload_n hx hb dX8_hasRoomFor_4 rfl (lv_at hl 1 rfl) ?_
  refine lv_iadd hx hb dX8_hasRoomFor_5 ?_
  refine lv_topi (fun z1 e2 => ?_)
  obtain rfl : z1 = (20 : Int32) := e2.trans (by decide)
  refine lv_sipush (v := 700) hx hb dX8_hasRoomFor_6 (by decide) ?_
  refine lv_icmp_gt (tgt := 16) hx hb dX8_hasRoomFor_9 (by decide) (fun c9 => absurd c9 (by decide)) (fun _ => ?_)
  refine lv_iconst (v := 1) hx hb dX8_hasRoomFor_12 (by decide) ?_
  refine lv_goto (tgt := 17) hx hb dX8_hasRoomFor_13 (by decide) ?_
  have hP9 := hP.sub (ws' := [(xa1, .inr (8, [.ref xa2, .int 16]))]) [0] rfl
  have hD9 := hD.sub (ws' := [(xa1, .inr (8, [.ref xa2, .int 16]))]) [0] (by decide) rfl
  exact W.zret (v := 1) (ty := .boolean) hx hb hr rfl (fun t ht hW => ⟨⟨1, (), rfl, rfl, by rw [ht]; exact hP9, hD9⟩, hS.F ht⟩) hS.2.2 dX8_hasRoomFor_17
def rm_k8_append_0 : Room := { frames := 1, cells := 0, slots := 0, locals := 21 }
set_option maxHeartbeats 4000000 in
set_option maxRecDepth 100000 in
theorem k8_append_0 (l : Launch) (dC : Nat → ClassId) (dI : Nat → Nat → Nat) (kB kI kJ kZ kC kS : ClassId) (sz : Nat) (xa1 : Nat) (xa2 : Nat) (p0 : Int32) (f1 : Nat → Int32) : Met l yX8_append wsX8_append rm_k8_append_0 (va_Pc [.ref xa1, .int p0] (fun U => U.heap.size = sz ∧ va_P (dC, dI) vwCl [(xa1, .inr (8, [.ref xa2, .int 0])), (xa2, .inl (kB, 700, .inl f1))] U.heap ∧ kE dC dI kB kI kJ kZ kC kS U ∧ va_D (fun _ => True) [(xa1, .inr (8, [.ref xa2, .int 0])), (xa2, .inl (kB, 700, .inl f1))])) (va_Qv (fun (_ : Unit) => True) (fun _ t => ∃ (g1 : Nat → Int32), va_P (dC, dI) vwCl [(xa1, .inr (8, [.ref xa2, .int 4])), (xa2, .inl (kB, 700, .inl g1))] t.heap ∧ va_D (va_A [(xa1, .inr (8, [.ref xa2, .int 0])), (xa2, .inl (kB, 700, .inl f1))] sz) [(xa1, .inr (8, [.ref xa2, .int 4])), (xa2, .inl (kB, 700, .inl g1))]) (va_A [(xa1, .inr (8, [.ref xa2, .int 0])), (xa2, .inl (kB, 700, .inl f1))] sz)) 0 0 (va_A [(xa1, .inr (8, [.ref xa2, .int 0])), (xa2, .inl (kB, 700, .inl f1))] sz) := by
  refine Met.ofW (cc := cX8_append) (maxL := 3) (ret := none) (by decide) rfl ?_
  intro p e s m args0 below meth c s₁ B hml hv
  obtain ⟨hargs, hsz, hP, hE, hD0⟩ := hv
  have hx := B.exec
  have hb := B.bytes
  have hr := B.returns
  have hts := atoms_spec (ws := wsX8_append) B.pre
  have hown : s.vm.findClass RX8 = some m.cls := findClass_of_methodNamed B.named
  have hlocks := B.notSynchronized
  have hK := hE.1
  have hin8 : ∀ w ∈ wsX80, w ∈ wsX8_append := fun _ h9 => List.mem_cons_of_mem _ (List.mem_append_right _ h9)
  subst hsz
  have hD := hD0.self (sz := s.heap.size)
  generalize hAe : va_A [(xa1, .inr (8, [.ref xa2, .int 0])), (xa2, .inl (kB, 700, .inl f1))] s.heap.size = A at hD ⊢
  have hA : ∀ q : Nat, s.heap.size ≤ q → A q := fun q h => by rw [← hAe]; exact Or.inr h
  have hS : va_S A s.heap s.heap [] := va_S.rf
  have hP : va_P (dC, dI) vwCl [(xa1, .inr (8, [.ref xa2, .int 0])), (xa2, .inl (kB, 700, .inl f1))] s.heap := hP
  have hl := lv_entry ([.ref xa1, .int p0]) (n := 3) (Nat.le_of_ble_eq_true rfl)
  have hla : entryFrame m args0 3 = entryFrame m ([.ref xa1, .int p0] : List Value).toArray 3 := by rw [hargs]
  rw [hla, lg_entry_eq]
  generalize (lg_sl ([.ref xa1, .int p0]) ++ List.replicate (3 - (lg_sl ([.ref xa1, .int p0])).length) Slot.unset).toArray = ls at hl ⊢
  have hl : lv_has ls 3 [(0, .ref xa1), (1, .int p0)] := hl
  refine lv_aload_n hx hb dX8_append_0 rfl (lv_at hl 0 rfl) ?_
  refine lv_iconst (v := 4) hx hb dX8_append_1 (by decide) ?_
  have hPc := hP.sub (ws' := [(xa1, .inr (8, [.ref xa2, .int 0]))]) [0] rfl
  have hDc := hD.sub (ws' := [(xa1, .inr (8, [.ref xa2, .int 0]))]) [0] (by decide) rfl
  have hFc := va_free (wc := [(xa1, .inr (8, [.ref xa2, .int 0]))]) hD hS hA [0] rfl
  refine va_calli (va_runV (As := [.int 4]) (rest := []) ⟨hx, hb, hml, hown, hts⟩ (k8_room_0_4 l dC dI kB kI kJ kZ kC kS s.heap.size xa1 xa2) (cwV 1 hts gX8_append_X8_hasRoomFor rfl rfl rfl (by decide +kernel) ⟨Nat.le_of_ble_eq_true rfl, Nat.le_of_ble_eq_true rfl⟩) ⟨fun a U g mk q => by obtain ⟨q0, q1, qP, qE, qD⟩ := q; exact ⟨q0, q1, qP, kE_call qE, qD⟩, va_recv hK hP (ci := 8) (q0 := 0) rfl rfl, fun U hU hW => ⟨rfl, by rw [hU], by rw [hU]; exact hPc, kE_warm hW hE, hDc.weaken (fun _ _ _ _ => trivial)⟩⟩ rfl rfl hl.1 rfl (lv_room (Nat.le_of_ble_eq_true rfl)) dX8_append_2 ⟨Nat.le_of_ble_eq_true rfl, Nat.le_of_ble_eq_true rfl⟩) hS (fun q _ h => hFc q h) hFc (fun r1 u t H1 locs ht hvm w2 hB hz1 hk1 hS => ?_)
  obtain ⟨hP1, hD1⟩ := hB
  rw [ht] at hP1
  try dsimp only at w2
  obtain ⟨hP, hD⟩ := va_join (wr := [(xa2, .inl (kB, 700, .inl f1))]) (w1 := [(xa1, .inr (8, [.ref xa2, .int 0]))]) hP hD [0] [1] rfl rfl (by decide) (by decide) hk1 hFc hP1 hD1
  generalize H1 = H at hP hS ⊢
  have hP : va_P (dC, dI) vwCl [(xa2, .inl (kB, 700, .inl f1)), (xa1, .inr (8, [.ref xa2, .int 0]))] H := hP
  have hD : va_D A [(xa2, .inl (kB, 700, .inl f1)), (xa1, .inr (8, [.ref xa2, .int 0]))] := hD
  refine W.widen (k := 0) (n := 0) (Nat.le_of_ble_eq_true rfl) (Nat.le_of_ble_eq_true rfl) ?_
  subst w2
  refine lv_if_ne (tgt := 9) hx hb dX8_append_5 (by decide) (fun _ => ?_) (fun c9 => absurd c9 (by decide))
  refine lv_bipush (v := 24) hx hb dX8_append_9 (by decide) ?_
  refine lv_istore_n (lv' := [(2, .int 24), (0, .ref xa1), (1, .int p0)]) hx hb dX8_append_11 rfl hl (by decide) rfl (fun ls hl => ?_)
  refine lv_iload_n hx hb dX8_append_12 rfl (lv_at hl 0 rfl) ?_
  refine lv_if_lt (tgt := 45) hx hb dX8_append_13 (by decide) (fun c9 => absurd c9 (by decide)) (fun _ => ?_)
  refine lv_aload_n hx hb dX8_append_16 rfl (lv_at hl 1 rfl) ?_
  refine va_get (D := (dC, dI)) (ci := 8) (v := .ref xa2) (C := RX8) (T := TX8) (N := 2) hx hb hts hin8 hown hK hP 1 rfl rfl 0 (by decide) (hts (.fieldLink RX8 9 "PathProber$Tape" "bytes" "[B") (List.mem_of_getElem? (i := 1) (by decide +kernel))) (fun _ h9 => h9) rfl dX8_append_17 ?_
  refine lv_aload_n hx hb dX8_append_20 rfl (lv_at hl 1 rfl) ?_
  refine va_get (D := (dC, dI)) (ci := 8) (v := .int 0) (C := RX8) (T := TX8) (N := 2) hx hb hts hin8 hown hK hP 1 rfl rfl 1 (by decide) (hts (.fieldLink RX8 15 "PathProber$Tape" "length" "I") (List.mem_of_getElem? (i := 2) (by decide +kernel))) (fun _ h9 => h9) rfl dX8_append_21 ?_
  refine lv_iload_n hx hb dX8_append_24 rfl (lv_at hl 2 rfl) ?_
  refine lv_iload_n hx hb dX8_append_25 rfl (lv_at hl 0 rfl) ?_
  refine lv_ishr hx hb dX8_append_26 ?_
  refine lv_i2b (v := (p0 >>> ((24 : Int32) &&& 31)).toInt8.toInt32) hx hb dX8_append_27 rfl ?_
  refine va_bast hx hb hK hP hD hS 0 0 rfl rfl (vp_in_nI (n := 0) (by decide) (by decide)) dX8_append_28 (fun H locs hP hD hS => ?_)
  have hP : va_P (dC, dI) vwCl [(xa2, .inl (kB, 700, .inl (upd f1 0 (vp_nar .byte ((p0 >>> ((24 : Int32) &&& 31)).toInt8.toInt32))))), (xa1, .inr (8, [.ref xa2, .int 0]))] H := hP
  have hD : va_D A [(xa2, .inl (kB, 700, .inl (upd f1 0 (vp_nar .byte ((p0 >>> ((24 : Int32) &&& 31)).toInt8.toInt32))))), (xa1, .inr (8, [.ref xa2, .int 0]))] := hD
  generalize (upd f1 0 (vp_nar .byte ((p0 >>> ((24 : Int32) &&& 31)).toInt8.toInt32))) = f3 at hP hD
  refine lv_aload_n hx hb dX8_append_29 rfl (lv_at hl 1 rfl) ?_
  refine lv_dup hx hb dX8_append_30 rfl ?_
  refine va_get (D := (dC, dI)) (ci := 8) (v := .int 0) (C := RX8) (T := TX8) (N := 2) hx hb hts hin8 hown hK hP 1 rfl rfl 1 (by decide) (hts (.fieldLink RX8 15 "PathProber$Tape" "length" "I") (List.mem_of_getElem? (i := 2) (by decide +kernel))) (fun _ h9 => h9) rfl dX8_append_31 ?_
  refine lv_iconst (v := 1) hx hb dX8_append_34 (by decide) ?_
  refine lv_iadd hx hb dX8_append_35 ?_
  refine lv_topi (fun z4 e5 => ?_)
  obtain rfl : z4 = (1 : Int32) := e5.trans (by decide)
  refine va_put (D := (dC, dI)) (ci := 8) (v := .int 1) (ty := .int) (C := RX8) (T := TX8) (N := 2) hx hb hts hin8 tyX8 tyX8_ok nmX8 hown hK hP hD hS 1 rfl rfl 1 (by decide) (hts (.fieldLink RX8 15 "PathProber$Tape" "length" "I") (List.mem_of_getElem? (i := 2) (by decide +kernel))) (fun _ h9 => h9) rfl (by decide +kernel) rfl rfl (Nat.le_of_ble_eq_true rfl) dX8_append_36 (fun H locs hP hD hS => ?_)
  have hP : va_P (dC, dI) vwCl [(xa2, .inl (kB, 700, .inl f3)), (xa1, .inr (8, [.ref xa2, .int 1]))] H := hP
  have hD : va_D A [(xa2, .inl (kB, 700, .inl f3)), (xa1, .inr (8, [.ref xa2, .int 1]))] := hD
  refine lv_iinc (v := 16) (lv' := [(2, .int 16), (0, .ref xa1), (1, .int p0)]) hx hb dX8_append_39 hl (k := 0) rfl (by decide) (by decide) rfl (fun ls hl => ?_)
  refine lv_goto (tgt := 12) hx hb dX8_append_42 (by decide) ?_
  refine lv_iload_n hx hb dX8_append_12 rfl (lv_at hl 0 rfl) ?_
  refine lv_if_lt (tgt := 45) hx hb dX8_append_13 (by decide) (fun c9 => absurd c9 (by decide)) (fun _ => ?_)
  refine lv_aload_n hx hb dX8_append_16 rfl (lv_at hl 1 rfl) ?_
  refine va_get (D := (dC, dI)) (ci := 8) (v := .ref xa2) (C := RX8) (T := TX8) (N := 2) hx hb hts hin8 hown hK hP 1 rfl rfl 0 (by decide) (hts (.fieldLink RX8 9 "PathProber$Tape" "bytes" "[B") (List.mem_of_getElem? (i := 1) (by decide +kernel))) (fun _ h9 => h9) rfl dX8_append_17 ?_
  refine lv_aload_n hx hb dX8_append_20 rfl (lv_at hl 1 rfl) ?_
  refine va_get (D := (dC, dI)) (ci := 8) (v := .int 1) (C := RX8) (T := TX8) (N := 2) hx hb hts hin8 hown hK hP 1 rfl rfl 1 (by decide) (hts (.fieldLink RX8 15 "PathProber$Tape" "length" "I") (List.mem_of_getElem? (i := 2) (by decide +kernel))) (fun _ h9 => h9) rfl dX8_append_21 ?_
  refine lv_iload_n hx hb dX8_append_24 rfl (lv_at hl 2 rfl) ?_
  refine lv_iload_n hx hb dX8_append_25 rfl (lv_at hl 0 rfl) ?_
  refine lv_ishr hx hb dX8_append_26 ?_
  refine lv_i2b (v := (p0 >>> ((16 : Int32) &&& 31)).toInt8.toInt32) hx hb dX8_append_27 rfl ?_
  refine va_bast hx hb hK hP hD hS 0 0 rfl rfl (vp_in_nI (n := 1) (by decide) (by decide)) dX8_append_28 (fun H locs hP hD hS => ?_)
  have hP : va_P (dC, dI) vwCl [(xa2, .inl (kB, 700, .inl (upd f3 1 (vp_nar .byte ((p0 >>> ((16 : Int32) &&& 31)).toInt8.toInt32))))), (xa1, .inr (8, [.ref xa2, .int 1]))] H := hP
  have hD : va_D A [(xa2, .inl (kB, 700, .inl (upd f3 1 (vp_nar .byte ((p0 >>> ((16 : Int32) &&& 31)).toInt8.toInt32))))), (xa1, .inr (8, [.ref xa2, .int 1]))] := hD
  generalize (upd f3 1 (vp_nar .byte ((p0 >>> ((16 : Int32) &&& 31)).toInt8.toInt32))) = f6 at hP hD
  refine lv_aload_n hx hb dX8_append_29 rfl (lv_at hl 1 rfl) ?_
  refine lv_dup hx hb dX8_append_30 rfl ?_
  refine va_get (D := (dC, dI)) (ci := 8) (v := .int 1) (C := RX8) (T := TX8) (N := 2) hx hb hts hin8 hown hK hP 1 rfl rfl 1 (by decide) (hts (.fieldLink RX8 15 "PathProber$Tape" "length" "I") (List.mem_of_getElem? (i := 2) (by decide +kernel))) (fun _ h9 => h9) rfl dX8_append_31 ?_
  refine lv_iconst (v := 1) hx hb dX8_append_34 (by decide) ?_
  refine lv_iadd hx hb dX8_append_35 ?_
  refine lv_topi (fun z7 e8 => ?_)
  obtain rfl : z7 = (2 : Int32) := e8.trans (by decide)
  refine va_put (D := (dC, dI)) (ci := 8) (v := .int 2) (ty := .int) (C := RX8) (T := TX8) (N := 2) hx hb hts hin8 tyX8 tyX8_ok nmX8 hown hK hP hD hS 1 rfl rfl 1 (by decide) (hts (.fieldLink RX8 15 "PathProber$Tape" "length" "I") (List.mem_of_getElem? (i := 2) (by decide +kernel))) (fun _ h9 => h9) rfl (by decide +kernel) rfl rfl (Nat.le_of_ble_eq_true rfl) dX8_append_36 (fun H locs hP hD hS => ?_)
  have hP : va_P (dC, dI) vwCl [(xa2, .inl (kB, 700, .inl f6)), (xa1, .inr (8, [.ref xa2, .int 2]))] H := hP
  have hD : va_D A [(xa2, .inl (kB, 700, .inl f6)), (xa1, .inr (8, [.ref xa2, .int 2]))] := hD
  refine lv_iinc (v := 8) (lv' := [(2, .int 8), (0, .ref xa1), (1, .int p0)]) hx hb dX8_append_39 hl (k := 0) rfl (by decide) (by decide) rfl (fun ls hl => ?_)
  refine lv_goto (tgt := 12) hx hb dX8_append_42 (by decide) ?_
  refine lv_iload_n hx hb dX8_append_12 rfl (lv_at hl 0 rfl) ?_
  refine lv_if_lt (tgt := 45) hx hb dX8_append_13 (by decide) (fun c9 => absurd c9 (by decide)) (fun _ => ?_)
  refine lv_aload_n hx hb dX8_append_16 rfl (lv_at hl 1 rfl) ?_
  refine va_get (D := (dC, dI)) (ci := 8) (v := .ref xa2) (C := RX8) (T := TX8) (N := 2) hx hb hts hin8 hown hK hP 1 rfl rfl 0 (by decide) (hts (.fieldLink RX8 9 "PathProber$Tape" "bytes" "[B") (List.mem_of_getElem? (i := 1) (by decide +kernel))) (fun _ h9 => h9) rfl dX8_append_17 ?_
  refine lv_aload_n hx hb dX8_append_20 rfl (lv_at hl 1 rfl) ?_
  refine va_get (D := (dC, dI)) (ci := 8) (v := .int 2) (C := RX8) (T := TX8) (N := 2) hx hb hts hin8 hown hK hP 1 rfl rfl 1 (by decide) (hts (.fieldLink RX8 15 "PathProber$Tape" "length" "I") (List.mem_of_getElem? (i := 2) (by decide +kernel))) (fun _ h9 => h9) rfl dX8_append_21 ?_
  refine lv_iload_n hx hb dX8_append_24 rfl (lv_at hl 2 rfl) ?_
  refine lv_iload_n hx hb dX8_append_25 rfl (lv_at hl 0 rfl) ?_
  refine lv_ishr hx hb dX8_append_26 ?_
  refine lv_i2b (v := (p0 >>> ((8 : Int32) &&& 31)).toInt8.toInt32) hx hb dX8_append_27 rfl ?_
  refine va_bast hx hb hK hP hD hS 0 0 rfl rfl (vp_in_nI (n := 2) (by decide) (by decide)) dX8_append_28 (fun H locs hP hD hS => ?_)
  have hP : va_P (dC, dI) vwCl [(xa2, .inl (kB, 700, .inl (upd f6 2 (vp_nar .byte ((p0 >>> ((8 : Int32) &&& 31)).toInt8.toInt32))))), (xa1, .inr (8, [.ref xa2, .int 2]))] H := hP
  have hD : va_D A [(xa2, .inl (kB, 700, .inl (upd f6 2 (vp_nar .byte ((p0 >>> ((8 : Int32) &&& 31)).toInt8.toInt32))))), (xa1, .inr (8, [.ref xa2, .int 2]))] := hD
  generalize (upd f6 2 (vp_nar .byte ((p0 >>> ((8 : Int32) &&& 31)).toInt8.toInt32))) = f9 at hP hD
  refine lv_aload_n hx hb dX8_append_29 rfl (lv_at hl 1 rfl) ?_
  refine lv_dup hx hb dX8_append_30 rfl ?_
  refine va_get (D := (dC, dI)) (ci := 8) (v := .int 2) (C := RX8) (T := TX8) (N := 2) hx hb hts hin8 hown hK hP 1 rfl rfl 1 (by decide) (hts (.fieldLink RX8 15 "PathProber$Tape" "length" "I") (List.mem_of_getElem? (i := 2) (by decide +kernel))) (fun _ h9 => h9) rfl dX8_append_31 ?_
  refine lv_iconst (v := 1) hx hb dX8_append_34 (by decide) ?_
  refine lv_iadd hx hb dX8_append_35 ?_
  refine lv_topi (fun z10 e11 => ?_)
  obtain rfl : z10 = (3 : Int32) := e11.trans (by decide)
  refine va_put (D := (dC, dI)) (ci := 8) (v := .int 3) (ty := .int) (C := RX8) (T := TX8) (N := 2) hx hb hts hin8 tyX8 tyX8_ok nmX8 hown hK hP hD hS 1 rfl rfl 1 (by decide) (hts (.fieldLink RX8 15 "PathProber$Tape" "length" "I") (List.mem_of_getElem? (i := 2) (by decide +kernel))) (fun _ h9 => h9) rfl (by decide +kernel) rfl rfl (Nat.le_of_ble_eq_true rfl) dX8_append_36 (fun H locs hP hD hS => ?_)
  have hP : va_P (dC, dI) vwCl [(xa2, .inl (kB, 700, .inl f9)), (xa1, .inr (8, [.ref xa2, .int 3]))] H := hP
  have hD : va_D A [(xa2, .inl (kB, 700, .inl f9)), (xa1, .inr (8, [.ref xa2, .int 3]))] := hD
  refine lv_iinc (v := 0) (lv' := [(2, .int 0), (0, .ref xa1), (1, .int p0)]) hx hb dX8_append_39 hl (k := 0) rfl (by decide) (by decide) rfl (fun ls hl => ?_)
  refine lv_goto (tgt := 12) hx hb dX8_append_42 (by decide) ?_
  refine lv_iload_n hx hb dX8_append_12 rfl (lv_at hl 0 rfl) ?_
  refine lv_if_lt (tgt := 45) hx hb dX8_append_13 (by decide) (fun c9 => absurd c9 (by decide)) (fun _ => ?_)
  refine lv_aload_n hx hb dX8_append_16 rfl (lv_at hl 1 rfl) ?_
  refine va_get (D := (dC, dI)) (ci := 8) (v := .ref xa2) (C := RX8) (T := TX8) (N := 2) hx hb hts hin8 hown hK hP 1 rfl rfl 0 (by decide) (hts (.fieldLink RX8 9 "PathProber$Tape" "bytes" "[B") (List.mem_of_getElem? (i := 1) (by decide +kernel))) (fun _ h9 => h9) rfl dX8_append_17 ?_
  refine lv_aload_n hx hb dX8_append_20 rfl (lv_at hl 1 rfl) ?_
  refine va_get (D := (dC, dI)) (ci := 8) (v := .int 3) (C := RX8) (T := TX8) (N := 2) hx hb hts hin8 hown hK hP 1 rfl rfl 1 (by decide) (hts (.fieldLink RX8 15 "PathProber$Tape" "length" "I") (List.mem_of_getElem? (i := 2) (by decide +kernel))) (fun _ h9 => h9) rfl dX8_append_21 ?_
  refine lv_iload_n hx hb dX8_append_24 rfl (lv_at hl 2 rfl) ?_
  refine lv_iload_n hx hb dX8_append_25 rfl (lv_at hl 0 rfl) ?_
  refine lv_ishr hx hb dX8_append_26 ?_
  refine lv_i2b (v := (p0 >>> ((0 : Int32) &&& 31)).toInt8.toInt32) hx hb dX8_append_27 rfl ?_
  refine va_bast hx hb hK hP hD hS 0 0 rfl rfl (vp_in_nI (n := 3) (by decide) (by decide)) dX8_append_28 (fun H locs hP hD hS => ?_)
  have hP : va_P (dC, dI) vwCl [(xa2, .inl (kB, 700, .inl (upd f9 3 (vp_nar .byte ((p0 >>> ((0 : Int32) &&& 31)).toInt8.toInt32))))), (xa1, .inr (8, [.ref xa2, .int 3]))] H := hP
  have hD : va_D A [(xa2, .inl (kB, 700, .inl (upd f9 3 (vp_nar .byte ((p0 >>> ((0 : Int32) &&& 31)).toInt8.toInt32))))), (xa1, .inr (8, [.ref xa2, .int 3]))] := hD
  generalize (upd f9 3 (vp_nar .byte ((p0 >>> ((0 : Int32) &&& 31)).toInt8.toInt32))) = f12 at hP hD
  refine lv_aload_n hx hb dX8_append_29 rfl (lv_at hl 1 rfl) ?_
  refine lv_dup hx hb dX8_append_30 rfl ?_
  refine va_get (D := (dC, dI)) (ci := 8) (v := .int 3) (C := RX8) (T := TX8) (N := 2) hx hb hts hin8 hown hK hP 1 rfl rfl 1 (by decide) (hts (.fieldLink RX8 15 "PathProber$Tape" "length" "I") (List.mem_of_getElem? (i := 2) (by decide +kernel))) (fun _ h9 => h9) rfl dX8_append_31 ?_
  refine lv_iconst (v := 1) hx hb dX8_append_34 (by decide) ?_
  refine lv_iadd hx hb dX8_append_35 ?_
  refine lv_topi (fun z13 e14 => ?_)
  obtain rfl : z13 = (4 : Int32) := e14.trans (by decide)
  refine va_put (D := (dC, dI)) (ci := 8) (v := .int 4) (ty := .int) (C := RX8) (T := TX8) (N := 2) hx hb hts hin8 tyX8 tyX8_ok nmX8 hown hK hP hD hS 1 rfl rfl 1 (by decide) (hts (.fieldLink RX8 15 "PathProber$Tape" "length" "I") (List.mem_of_getElem? (i := 2) (by decide +kernel))) (fun _ h9 => h9) rfl (by decide +kernel) rfl rfl (Nat.le_of_ble_eq_true rfl) dX8_append_36 (fun H locs hP hD hS => ?_)
  have hP : va_P (dC, dI) vwCl [(xa2, .inl (kB, 700, .inl f12)), (xa1, .inr (8, [.ref xa2, .int 4]))] H := hP
  have hD : va_D A [(xa2, .inl (kB, 700, .inl f12)), (xa1, .inr (8, [.ref xa2, .int 4]))] := hD
  refine lv_iinc (v := (-8)) (lv' := [(2, .int (-8)), (0, .ref xa1), (1, .int p0)]) hx hb dX8_append_39 hl (k := 0) rfl (by decide) (by decide) rfl (fun ls hl => ?_)
  refine lv_goto (tgt := 12) hx hb dX8_append_42 (by decide) ?_
  refine lv_iload_n hx hb dX8_append_12 rfl (lv_at hl 0 rfl) ?_
  refine lv_if_lt (tgt := 45) hx hb dX8_append_13 (by decide) (fun _ => ?_) (fun c9 => absurd (by decide) c9)
  have hP9 := hP.sub (ws' := [(xa1, .inr (8, [.ref xa2, .int 4])), (xa2, .inl (kB, 700, .inl f12))]) [1, 0] rfl
  have hD9 := hD.sub (ws' := [(xa1, .inr (8, [.ref xa2, .int 4])), (xa2, .inl (kB, 700, .inl f12))]) [1, 0] (by decide) rfl
  exact W.vret hx hb hr (fun t ht hW => ⟨⟨(), rfl, trivial, f12, by rw [ht]; exact hP9, hD9⟩, hS.F ht⟩) hS.2.2 dX8_append_45
def rm_k8_append_4 : Room := { frames := 1, cells := 0, slots := 0, locals := 21 }
set_option maxHeartbeats 4000000 in
set_option maxRecDepth 100000 in
theorem k8_append_4 (l : Launch) (dC : Nat → ClassId) (dI : Nat → Nat → Nat) (kB kI kJ kZ kC kS : ClassId) (sz : Nat) (xa1 : Nat) (xa2 : Nat) (p0 : Int32) (f1 : Nat → Int32) : Met l yX8_append wsX8_append rm_k8_append_4 (va_Pc [.ref xa1, .int p0] (fun U => U.heap.size = sz ∧ va_P (dC, dI) vwCl [(xa1, .inr (8, [.ref xa2, .int 4])), (xa2, .inl (kB, 700, .inl f1))] U.heap ∧ kE dC dI kB kI kJ kZ kC kS U ∧ va_D (fun _ => True) [(xa1, .inr (8, [.ref xa2, .int 4])), (xa2, .inl (kB, 700, .inl f1))])) (va_Qv (fun (_ : Unit) => True) (fun _ t => ∃ (g1 : Nat → Int32), va_P (dC, dI) vwCl [(xa1, .inr (8, [.ref xa2, .int 8])), (xa2, .inl (kB, 700, .inl g1))] t.heap ∧ va_D (va_A [(xa1, .inr (8, [.ref xa2, .int 4])), (xa2, .inl (kB, 700, .inl f1))] sz) [(xa1, .inr (8, [.ref xa2, .int 8])), (xa2, .inl (kB, 700, .inl g1))]) (va_A [(xa1, .inr (8, [.ref xa2, .int 4])), (xa2, .inl (kB, 700, .inl f1))] sz)) 0 0 (va_A [(xa1, .inr (8, [.ref xa2, .int 4])), (xa2, .inl (kB, 700, .inl f1))] sz) := by
  refine Met.ofW (cc := cX8_append) (maxL := 3) (ret := none) (by decide) rfl ?_
  intro p e s m args0 below meth c s₁ B hml hv
  obtain ⟨hargs, hsz, hP, hE, hD0⟩ := hv
  have hx := B.exec
  have hb := B.bytes
  have hr := B.returns
  have hts := atoms_spec (ws := wsX8_append) B.pre
  have hown : s.vm.findClass RX8 = some m.cls := findClass_of_methodNamed B.named
  have hlocks := B.notSynchronized
  have hK := hE.1
  have hin8 : ∀ w ∈ wsX80, w ∈ wsX8_append := fun _ h9 => List.mem_cons_of_mem _ (List.mem_append_right _ h9)
  subst hsz
  have hD := hD0.self (sz := s.heap.size)
  generalize hAe : va_A [(xa1, .inr (8, [.ref xa2, .int 4])), (xa2, .inl (kB, 700, .inl f1))] s.heap.size = A at hD ⊢
  have hA : ∀ q : Nat, s.heap.size ≤ q → A q := fun q h => by rw [← hAe]; exact Or.inr h
  have hS : va_S A s.heap s.heap [] := va_S.rf
  have hP : va_P (dC, dI) vwCl [(xa1, .inr (8, [.ref xa2, .int 4])), (xa2, .inl (kB, 700, .inl f1))] s.heap := hP
  have hl := lv_entry ([.ref xa1, .int p0]) (n := 3) (Nat.le_of_ble_eq_true rfl)
  have hla : entryFrame m args0 3 = entryFrame m ([.ref xa1, .int p0] : List Value).toArray 3 := by rw [hargs]
  rw [hla, lg_entry_eq]
  generalize (lg_sl ([.ref xa1, .int p0]) ++ List.replicate (3 - (lg_sl ([.ref xa1, .int p0])).length) Slot.unset).toArray = ls at hl ⊢
  have hl : lv_has ls 3 [(0, .ref xa1), (1, .int p0)] := hl
  refine lv_aload_n hx hb dX8_append_0 rfl (lv_at hl 0 rfl) ?_
  refine lv_iconst (v := 4) hx hb dX8_append_1 (by decide) ?_
  have hPc := hP.sub (ws' := [(xa1, .inr (8, [.ref xa2, .int 4]))]) [0] rfl
  have hDc := hD.sub (ws' := [(xa1, .inr (8, [.ref xa2, .int 4]))]) [0] (by decide) rfl
  have hFc := va_free (wc := [(xa1, .inr (8, [.ref xa2, .int 4]))]) hD hS hA [0] rfl
  refine va_calli (va_runV (As := [.int 4]) (rest := []) ⟨hx, hb, hml, hown, hts⟩ (k8_room_4_4 l dC dI kB kI kJ kZ kC kS s.heap.size xa1 xa2) (cwV 1 hts gX8_append_X8_hasRoomFor rfl rfl rfl (by decide +kernel) ⟨Nat.le_of_ble_eq_true rfl, Nat.le_of_ble_eq_true rfl⟩) ⟨fun a U g mk q => by obtain ⟨q0, q1, qP, qE, qD⟩ := q; exact ⟨q0, q1, qP, kE_call qE, qD⟩, va_recv hK hP (ci := 8) (q0 := 0) rfl rfl, fun U hU hW => ⟨rfl, by rw [hU], by rw [hU]; exact hPc, kE_warm hW hE, hDc.weaken (fun _ _ _ _ => trivial)⟩⟩ rfl rfl hl.1 rfl (lv_room (Nat.le_of_ble_eq_true rfl)) dX8_append_2 ⟨Nat.le_of_ble_eq_true rfl, Nat.le_of_ble_eq_true rfl⟩) hS (fun q _ h => hFc q h) hFc (fun r1 u t H1 locs ht hvm w2 hB hz1 hk1 hS => ?_)
  obtain ⟨hP1, hD1⟩ := hB
  rw [ht] at hP1
  try dsimp only at w2
  obtain ⟨hP, hD⟩ := va_join (wr := [(xa2, .inl (kB, 700, .inl f1))]) (w1 := [(xa1, .inr (8, [.ref xa2, .int 4]))]) hP hD [0] [1] rfl rfl (by decide) (by decide) hk1 hFc hP1 hD1
  generalize H1 = H at hP hS ⊢
  have hP : va_P (dC, dI) vwCl [(xa2, .inl (kB, 700, .inl f1)), (xa1, .inr (8, [.ref xa2, .int 4]))] H := hP
  have hD : va_D A [(xa2, .inl (kB, 700, .inl f1)), (xa1, .inr (8, [.ref xa2, .int 4]))] := hD
  refine W.widen (k := 0) (n := 0) (Nat.le_of_ble_eq_true rfl) (Nat.le_of_ble_eq_true rfl) ?_
  subst w2
  refine lv_if_ne (tgt := 9) hx hb dX8_append_5 (by decide) (fun _ => ?_) (fun c9 => absurd c9 (by decide))
  refine lv_bipush (v := 24) hx hb dX8_append_9 (by decide) ?_
  refine lv_istore_n (lv' := [(2, .int 24), (0, .ref xa1), (1, .int p0)]) hx hb dX8_append_11 rfl hl (by decide) rfl (fun ls hl => ?_)
  refine lv_iload_n hx hb dX8_append_12 rfl (lv_at hl 0 rfl) ?_
  refine lv_if_lt (tgt := 45) hx hb dX8_append_13 (by decide) (fun c9 => absurd c9 (by decide)) (fun _ => ?_)
  refine lv_aload_n hx hb dX8_append_16 rfl (lv_at hl 1 rfl) ?_
  refine va_get (D := (dC, dI)) (ci := 8) (v := .ref xa2) (C := RX8) (T := TX8) (N := 2) hx hb hts hin8 hown hK hP 1 rfl rfl 0 (by decide) (hts (.fieldLink RX8 9 "PathProber$Tape" "bytes" "[B") (List.mem_of_getElem? (i := 1) (by decide +kernel))) (fun _ h9 => h9) rfl dX8_append_17 ?_
  refine lv_aload_n hx hb dX8_append_20 rfl (lv_at hl 1 rfl) ?_
  refine va_get (D := (dC, dI)) (ci := 8) (v := .int 4) (C := RX8) (T := TX8) (N := 2) hx hb hts hin8 hown hK hP 1 rfl rfl 1 (by decide) (hts (.fieldLink RX8 15 "PathProber$Tape" "length" "I") (List.mem_of_getElem? (i := 2) (by decide +kernel))) (fun _ h9 => h9) rfl dX8_append_21 ?_
  refine lv_iload_n hx hb dX8_append_24 rfl (lv_at hl 2 rfl) ?_
  refine lv_iload_n hx hb dX8_append_25 rfl (lv_at hl 0 rfl) ?_
  refine lv_ishr hx hb dX8_append_26 ?_
  refine lv_i2b (v := (p0 >>> ((24 : Int32) &&& 31)).toInt8.toInt32) hx hb dX8_append_27 rfl ?_
  refine va_bast hx hb hK hP hD hS 0 0 rfl rfl (vp_in_nI (n := 4) (by decide) (by decide)) dX8_append_28 (fun H locs hP hD hS => ?_)
  have hP : va_P (dC, dI) vwCl [(xa2, .inl (kB, 700, .inl (upd f1 4 (vp_nar .byte ((p0 >>> ((24 : Int32) &&& 31)).toInt8.toInt32))))), (xa1, .inr (8, [.ref xa2, .int 4]))] H := hP
  have hD : va_D A [(xa2, .inl (kB, 700, .inl (upd f1 4 (vp_nar .byte ((p0 >>> ((24 : Int32) &&& 31)).toInt8.toInt32))))), (xa1, .inr (8, [.ref xa2, .int 4]))] := hD
  generalize (upd f1 4 (vp_nar .byte ((p0 >>> ((24 : Int32) &&& 31)).toInt8.toInt32))) = f3 at hP hD
  refine lv_aload_n hx hb dX8_append_29 rfl (lv_at hl 1 rfl) ?_
  refine lv_dup hx hb dX8_append_30 rfl ?_
  refine va_get (D := (dC, dI)) (ci := 8) (v := .int 4) (C := RX8) (T := TX8) (N := 2) hx hb hts hin8 hown hK hP 1 rfl rfl 1 (by decide) (hts (.fieldLink RX8 15 "PathProber$Tape" "length" "I") (List.mem_of_getElem? (i := 2) (by decide +kernel))) (fun _ h9 => h9) rfl dX8_append_31 ?_
  refine lv_iconst (v := 1) hx hb dX8_append_34 (by decide) ?_
  refine lv_iadd hx hb dX8_append_35 ?_
  refine lv_topi (fun z4 e5 => ?_)
  obtain rfl : z4 = (5 : Int32) := e5.trans (by decide)
  refine va_put (D := (dC, dI)) (ci := 8) (v := .int 5) (ty := .int) (C := RX8) (T := TX8) (N := 2) hx hb hts hin8 tyX8 tyX8_ok nmX8 hown hK hP hD hS 1 rfl rfl 1 (by decide) (hts (.fieldLink RX8 15 "PathProber$Tape" "length" "I") (List.mem_of_getElem? (i := 2) (by decide +kernel))) (fun _ h9 => h9) rfl (by decide +kernel) rfl rfl (Nat.le_of_ble_eq_true rfl) dX8_append_36 (fun H locs hP hD hS => ?_)
  have hP : va_P (dC, dI) vwCl [(xa2, .inl (kB, 700, .inl f3)), (xa1, .inr (8, [.ref xa2, .int 5]))] H := hP
  have hD : va_D A [(xa2, .inl (kB, 700, .inl f3)), (xa1, .inr (8, [.ref xa2, .int 5]))] := hD
  refine lv_iinc (v := 16) (lv' := [(2, .int 16), (0, .ref xa1), (1, .int p0)]) hx hb dX8_append_39 hl (k := 0) rfl (by decide) (by decide) rfl (fun ls hl => ?_)
  refine lv_goto (tgt := 12) hx hb dX8_append_42 (by decide) ?_
  refine lv_iload_n hx hb dX8_append_12 rfl (lv_at hl 0 rfl) ?_
  refine lv_if_lt (tgt := 45) hx hb dX8_append_13 (by decide) (fun c9 => absurd c9 (by decide)) (fun _ => ?_)
  refine lv_aload_n hx hb dX8_append_16 rfl (lv_at hl 1 rfl) ?_
  refine va_get (D := (dC, dI)) (ci := 8) (v := .ref xa2) (C := RX8) (T := TX8) (N := 2) hx hb hts hin8 hown hK hP 1 rfl rfl 0 (by decide) (hts (.fieldLink RX8 9 "PathProber$Tape" "bytes" "[B") (List.mem_of_getElem? (i := 1) (by decide +kernel))) (fun _ h9 => h9) rfl dX8_append_17 ?_
  refine lv_aload_n hx hb dX8_append_20 rfl (lv_at hl 1 rfl) ?_
  refine va_get (D := (dC, dI)) (ci := 8) (v := .int 5) (C := RX8) (T := TX8) (N := 2) hx hb hts hin8 hown hK hP 1 rfl rfl 1 (by decide) (hts (.fieldLink RX8 15 "PathProber$Tape" "length" "I") (List.mem_of_getElem? (i := 2) (by decide +kernel))) (fun _ h9 => h9) rfl dX8_append_21 ?_
  refine lv_iload_n hx hb dX8_append_24 rfl (lv_at hl 2 rfl) ?_
  refine lv_iload_n hx hb dX8_append_25 rfl (lv_at hl 0 rfl) ?_
  refine lv_ishr hx hb dX8_append_26 ?_
  refine lv_i2b (v := (p0 >>> ((16 : Int32) &&& 31)).toInt8.toInt32) hx hb dX8_append_27 rfl ?_
  refine va_bast hx hb hK hP hD hS 0 0 rfl rfl (vp_in_nI (n := 5) (by decide) (by decide)) dX8_append_28 (fun H locs hP hD hS => ?_)
  have hP : va_P (dC, dI) vwCl [(xa2, .inl (kB, 700, .inl (upd f3 5 (vp_nar .byte ((p0 >>> ((16 : Int32) &&& 31)).toInt8.toInt32))))), (xa1, .inr (8, [.ref xa2, .int 5]))] H := hP
  have hD : va_D A [(xa2, .inl (kB, 700, .inl (upd f3 5 (vp_nar .byte ((p0 >>> ((16 : Int32) &&& 31)).toInt8.toInt32))))), (xa1, .inr (8, [.ref xa2, .int 5]))] := hD
  generalize (upd f3 5 (vp_nar .byte ((p0 >>> ((16 : Int32) &&& 31)).toInt8.toInt32))) = f6 at hP hD
  refine lv_aload_n hx hb dX8_append_29 rfl (lv_at hl 1 rfl) ?_
  refine lv_dup hx hb dX8_append_30 rfl ?_
  refine va_get (D := (dC, dI)) (ci := 8) (v := .int 5) (C := RX8) (T := TX8) (N := 2) hx hb hts hin8 hown hK hP 1 rfl rfl 1 (by decide) (hts (.fieldLink RX8 15 "PathProber$Tape" "length" "I") (List.mem_of_getElem? (i := 2) (by decide +kernel))) (fun _ h9 => h9) rfl dX8_append_31 ?_
  refine lv_iconst (v := 1) hx hb dX8_append_34 (by decide) ?_
  refine lv_iadd hx hb dX8_append_35 ?_
  refine lv_topi (fun z7 e8 => ?_)
  obtain rfl : z7 = (6 : Int32) := e8.trans (by decide)
  refine va_put (D := (dC, dI)) (ci := 8) (v := .int 6) (ty := .int) (C := RX8) (T := TX8) (N := 2) hx hb hts hin8 tyX8 tyX8_ok nmX8 hown hK hP hD hS 1 rfl rfl 1 (by decide) (hts (.fieldLink RX8 15 "PathProber$Tape" "length" "I") (List.mem_of_getElem? (i := 2) (by decide +kernel))) (fun _ h9 => h9) rfl (by decide +kernel) rfl rfl (Nat.le_of_ble_eq_true rfl) dX8_append_36 (fun H locs hP hD hS => ?_)
  have hP : va_P (dC, dI) vwCl [(xa2, .inl (kB, 700, .inl f6)), (xa1, .inr (8, [.ref xa2, .int 6]))] H := hP
  have hD : va_D A [(xa2, .inl (kB, 700, .inl f6)), (xa1, .inr (8, [.ref xa2, .int 6]))] := hD
  refine lv_iinc (v := 8) (lv' := [(2, .int 8), (0, .ref xa1), (1, .int p0)]) hx hb dX8_append_39 hl (k := 0) rfl (by decide) (by decide) rfl (fun ls hl => ?_)
  refine lv_goto (tgt := 12) hx hb dX8_append_42 (by decide) ?_
  refine lv_iload_n hx hb dX8_append_12 rfl (lv_at hl 0 rfl) ?_
  refine lv_if_lt (tgt := 45) hx hb dX8_append_13 (by decide) (fun c9 => absurd c9 (by decide)) (fun _ => ?_)
  refine lv_aload_n hx hb dX8_append_16 rfl (lv_at hl 1 rfl) ?_
  refine va_get (D := (dC, dI)) (ci := 8) (v := .ref xa2) (C := RX8) (T := TX8) (N := 2) hx hb hts hin8 hown hK hP 1 rfl rfl 0 (by decide) (hts (.fieldLink RX8 9 "PathProber$Tape" "bytes" "[B") (List.mem_of_getElem? (i := 1) (by decide +kernel))) (fun _ h9 => h9) rfl dX8_append_17 ?_
  refine lv_aload_n hx hb dX8_append_20 rfl (lv_at hl 1 rfl) ?_
  refine va_get (D := (dC, dI)) (ci := 8) (v := .int 6) (C := RX8) (T := TX8) (N := 2) hx hb hts hin8 hown hK hP 1 rfl rfl 1 (by decide) (hts (.fieldLink RX8 15 "PathProber$Tape" "length" "I") (List.mem_of_getElem? (i := 2) (by decide +kernel))) (fun _ h9 => h9) rfl dX8_append_21 ?_
  refine lv_iload_n hx hb dX8_append_24 rfl (lv_at hl 2 rfl) ?_
  refine lv_iload_n hx hb dX8_append_25 rfl (lv_at hl 0 rfl) ?_
  refine lv_ishr hx hb dX8_append_26 ?_
  refine lv_i2b (v := (p0 >>> ((8 : Int32) &&& 31)).toInt8.toInt32) hx hb dX8_append_27 rfl ?_
  refine va_bast hx hb hK hP hD hS 0 0 rfl rfl (vp_in_nI (n := 6) (by decide) (by decide)) dX8_append_28 (fun H locs hP hD hS => ?_)
  have hP : va_P (dC, dI) vwCl [(xa2, .inl (kB, 700, .inl (upd f6 6 (vp_nar .byte ((p0 >>> ((8 : Int32) &&& 31)).toInt8.toInt32))))), (xa1, .inr (8, [.ref xa2, .int 6]))] H := hP
  have hD : va_D A [(xa2, .inl (kB, 700, .inl (upd f6 6 (vp_nar .byte ((p0 >>> ((8 : Int32) &&& 31)).toInt8.toInt32))))), (xa1, .inr (8, [.ref xa2, .int 6]))] := hD
  generalize (upd f6 6 (vp_nar .byte ((p0 >>> ((8 : Int32) &&& 31)).toInt8.toInt32))) = f9 at hP hD
  refine lv_aload_n hx hb dX8_append_29 rfl (lv_at hl 1 rfl) ?_
  refine lv_dup hx hb dX8_append_30 rfl ?_
  refine va_get (D := (dC, dI)) (ci := 8) (v := .int 6) (C := RX8) (T := TX8) (N := 2) hx hb hts hin8 hown hK hP 1 rfl rfl 1 (by decide) (hts (.fieldLink RX8 15 "PathProber$Tape" "length" "I") (List.mem_of_getElem? (i := 2) (by decide +kernel))) (fun _ h9 => h9) rfl dX8_append_31 ?_
  refine lv_iconst (v := 1) hx hb dX8_append_34 (by decide) ?_
  refine lv_iadd hx hb dX8_append_35 ?_
  refine lv_topi (fun z10 e11 => ?_)
  obtain rfl : z10 = (7 : Int32) := e11.trans (by decide)
  refine va_put (D := (dC, dI)) (ci := 8) (v := .int 7) (ty := .int) (C := RX8) (T := TX8) (N := 2) hx hb hts hin8 tyX8 tyX8_ok nmX8 hown hK hP hD hS 1 rfl rfl 1 (by decide) (hts (.fieldLink RX8 15 "PathProber$Tape" "length" "I") (List.mem_of_getElem? (i := 2) (by decide +kernel))) (fun _ h9 => h9) rfl (by decide +kernel) rfl rfl (Nat.le_of_ble_eq_true rfl) dX8_append_36 (fun H locs hP hD hS => ?_)
  have hP : va_P (dC, dI) vwCl [(xa2, .inl (kB, 700, .inl f9)), (xa1, .inr (8, [.ref xa2, .int 7]))] H := hP
  have hD : va_D A [(xa2, .inl (kB, 700, .inl f9)), (xa1, .inr (8, [.ref xa2, .int 7]))] := hD
  refine lv_iinc (v := 0) (lv' := [(2, .int 0), (0, .ref xa1), (1, .int p0)]) hx hb dX8_append_39 hl (k := 0) rfl (by decide) (by decide) rfl (fun ls hl => ?_)
  refine lv_goto (tgt := 12) hx hb dX8_append_42 (by decide) ?_
  refine lv_iload_n hx hb dX8_append_12 rfl (lv_at hl 0 rfl) ?_
  refine lv_if_lt (tgt := 45) hx hb dX8_append_13 (by decide) (fun c9 => absurd c9 (by decide)) (fun _ => ?_)
  refine lv_aload_n hx hb dX8_append_16 rfl (lv_at hl 1 rfl) ?_
  refine va_get (D := (dC, dI)) (ci := 8) (v := .ref xa2) (C := RX8) (T := TX8) (N := 2) hx hb hts hin8 hown hK hP 1 rfl rfl 0 (by decide) (hts (.fieldLink RX8 9 "PathProber$Tape" "bytes" "[B") (List.mem_of_getElem? (i := 1) (by decide +kernel))) (fun _ h9 => h9) rfl dX8_append_17 ?_
  refine lv_aload_n hx hb dX8_append_20 rfl (lv_at hl 1 rfl) ?_
  refine va_get (D := (dC, dI)) (ci := 8) (v := .int 7) (C := RX8) (T := TX8) (N := 2) hx hb hts hin8 hown hK hP 1 rfl rfl 1 (by decide) (hts (.fieldLink RX8 15 "PathProber$Tape" "length" "I") (List.mem_of_getElem? (i := 2) (by decide +kernel))) (fun _ h9 => h9) rfl dX8_append_21 ?_
  refine lv_iload_n hx hb dX8_append_24 rfl (lv_at hl 2 rfl) ?_
  refine lv_iload_n hx hb dX8_append_25 rfl (lv_at hl 0 rfl) ?_
  refine lv_ishr hx hb dX8_append_26 ?_
  refine lv_i2b (v := (p0 >>> ((0 : Int32) &&& 31)).toInt8.toInt32) hx hb dX8_append_27 rfl ?_
  refine va_bast hx hb hK hP hD hS 0 0 rfl rfl (vp_in_nI (n := 7) (by decide) (by decide)) dX8_append_28 (fun H locs hP hD hS => ?_)
  have hP : va_P (dC, dI) vwCl [(xa2, .inl (kB, 700, .inl (upd f9 7 (vp_nar .byte ((p0 >>> ((0 : Int32) &&& 31)).toInt8.toInt32))))), (xa1, .inr (8, [.ref xa2, .int 7]))] H := hP
  have hD : va_D A [(xa2, .inl (kB, 700, .inl (upd f9 7 (vp_nar .byte ((p0 >>> ((0 : Int32) &&& 31)).toInt8.toInt32))))), (xa1, .inr (8, [.ref xa2, .int 7]))] := hD
  generalize (upd f9 7 (vp_nar .byte ((p0 >>> ((0 : Int32) &&& 31)).toInt8.toInt32))) = f12 at hP hD
  refine lv_aload_n hx hb dX8_append_29 rfl (lv_at hl 1 rfl) ?_
  refine lv_dup hx hb dX8_append_30 rfl ?_
  refine va_get (D := (dC, dI)) (ci := 8) (v := .int 7) (C := RX8) (T := TX8) (N := 2) hx hb hts hin8 hown hK hP 1 rfl rfl 1 (by decide) (hts (.fieldLink RX8 15 "PathProber$Tape" "length" "I") (List.mem_of_getElem? (i := 2) (by decide +kernel))) (fun _ h9 => h9) rfl dX8_append_31 ?_
  refine lv_iconst (v := 1) hx hb dX8_append_34 (by decide) ?_
  refine lv_iadd hx hb dX8_append_35 ?_
  refine lv_topi (fun z13 e14 => ?_)
  obtain rfl : z13 = (8 : Int32) := e14.trans (by decide)
  refine va_put (D := (dC, dI)) (ci := 8) (v := .int 8) (ty := .int) (C := RX8) (T := TX8) (N := 2) hx hb hts hin8 tyX8 tyX8_ok nmX8 hown hK hP hD hS 1 rfl rfl 1 (by decide) (hts (.fieldLink RX8 15 "PathProber$Tape" "length" "I") (List.mem_of_getElem? (i := 2) (by decide +kernel))) (fun _ h9 => h9) rfl (by decide +kernel) rfl rfl (Nat.le_of_ble_eq_true rfl) dX8_append_36 (fun H locs hP hD hS => ?_)
  have hP : va_P (dC, dI) vwCl [(xa2, .inl (kB, 700, .inl f12)), (xa1, .inr (8, [.ref xa2, .int 8]))] H := hP
  have hD : va_D A [(xa2, .inl (kB, 700, .inl f12)), (xa1, .inr (8, [.ref xa2, .int 8]))] := hD
  refine lv_iinc (v := (-8)) (lv' := [(2, .int (-8)), (0, .ref xa1), (1, .int p0)]) hx hb dX8_append_39 hl (k := 0) rfl (by decide) (by decide) rfl (fun ls hl => ?_)
  refine lv_goto (tgt := 12) hx hb dX8_append_42 (by decide) ?_
  refine lv_iload_n hx hb dX8_append_12 rfl (lv_at hl 0 rfl) ?_
  refine lv_if_lt (tgt := 45) hx hb dX8_append_13 (by decide) (fun _ => ?_) (fun c9 => absurd (by decide) c9)
  have hP9 := hP.sub (ws' := [(xa1, .inr (8, [.ref xa2, .int 8])), (xa2, .inl (kB, 700, .inl f12))]) [1, 0] rfl
  have hD9 := hD.sub (ws' := [(xa1, .inr (8, [.ref xa2, .int 8])), (xa2, .inl (kB, 700, .inl f12))]) [1, 0] (by decide) rfl
  exact W.vret hx hb hr (fun t ht hW => ⟨⟨(), rfl, trivial, f12, by rw [ht]; exact hP9, hD9⟩, hS.F ht⟩) hS.2.2 dX8_append_45
def rm_k8_append_8 : Room := { frames := 1, cells := 0, slots := 0, locals := 21 }
set_option maxHeartbeats 4000000 in
set_option maxRecDepth 100000 in
theorem k8_append_8 (l : Launch) (dC : Nat → ClassId) (dI : Nat → Nat → Nat) (kB kI kJ kZ kC kS : ClassId) (sz : Nat) (xa1 : Nat) (xa2 : Nat) (p0 : Int32) (f1 : Nat → Int32) : Met l yX8_append wsX8_append rm_k8_append_8 (va_Pc [.ref xa1, .int p0] (fun U => U.heap.size = sz ∧ va_P (dC, dI) vwCl [(xa1, .inr (8, [.ref xa2, .int 8])), (xa2, .inl (kB, 700, .inl f1))] U.heap ∧ kE dC dI kB kI kJ kZ kC kS U ∧ va_D (fun _ => True) [(xa1, .inr (8, [.ref xa2, .int 8])), (xa2, .inl (kB, 700, .inl f1))])) (va_Qv (fun (_ : Unit) => True) (fun _ t => ∃ (g1 : Nat → Int32), va_P (dC, dI) vwCl [(xa1, .inr (8, [.ref xa2, .int 12])), (xa2, .inl (kB, 700, .inl g1))] t.heap ∧ va_D (va_A [(xa1, .inr (8, [.ref xa2, .int 8])), (xa2, .inl (kB, 700, .inl f1))] sz) [(xa1, .inr (8, [.ref xa2, .int 12])), (xa2, .inl (kB, 700, .inl g1))]) (va_A [(xa1, .inr (8, [.ref xa2, .int 8])), (xa2, .inl (kB, 700, .inl f1))] sz)) 0 0 (va_A [(xa1, .inr (8, [.ref xa2, .int 8])), (xa2, .inl (kB, 700, .inl f1))] sz) := by
  refine Met.ofW (cc := cX8_append) (maxL := 3) (ret := none) (by decide) rfl ?_
  intro p e s m args0 below meth c s₁ B hml hv
  obtain ⟨hargs, hsz, hP, hE, hD0⟩ := hv
  have hx := B.exec
  have hb := B.bytes
  have hr := B.returns
  have hts := atoms_spec (ws := wsX8_append) B.pre
  have hown : s.vm.findClass RX8 = some m.cls := findClass_of_methodNamed B.named
  have hlocks := B.notSynchronized
  have hK := hE.1
  have hin8 : ∀ w ∈ wsX80, w ∈ wsX8_append := fun _ h9 => List.mem_cons_of_mem _ (List.mem_append_right _ h9)
  subst hsz
  have hD := hD0.self (sz := s.heap.size)
  generalize hAe : va_A [(xa1, .inr (8, [.ref xa2, .int 8])), (xa2, .inl (kB, 700, .inl f1))] s.heap.size = A at hD ⊢
  have hA : ∀ q : Nat, s.heap.size ≤ q → A q := fun q h => by rw [← hAe]; exact Or.inr h
  have hS : va_S A s.heap s.heap [] := va_S.rf
  have hP : va_P (dC, dI) vwCl [(xa1, .inr (8, [.ref xa2, .int 8])), (xa2, .inl (kB, 700, .inl f1))] s.heap := hP
  have hl := lv_entry ([.ref xa1, .int p0]) (n := 3) (Nat.le_of_ble_eq_true rfl)
  have hla : entryFrame m args0 3 = entryFrame m ([.ref xa1, .int p0] : List Value).toArray 3 := by rw [hargs]
  rw [hla, lg_entry_eq]
  generalize (lg_sl ([.ref xa1, .int p0]) ++ List.replicate (3 - (lg_sl ([.ref xa1, .int p0])).length) Slot.unset).toArray = ls at hl ⊢
  have hl : lv_has ls 3 [(0, .ref xa1), (1, .int p0)] := hl
  refine lv_aload_n hx hb dX8_append_0 rfl (lv_at hl 0 rfl) ?_
  refine lv_iconst (v := 4) hx hb dX8_append_1 (by decide) ?_
  have hPc := hP.sub (ws' := [(xa1, .inr (8, [.ref xa2, .int 8]))]) [0] rfl
  have hDc := hD.sub (ws' := [(xa1, .inr (8, [.ref xa2, .int 8]))]) [0] (by decide) rfl
  have hFc := va_free (wc := [(xa1, .inr (8, [.ref xa2, .int 8]))]) hD hS hA [0] rfl
  refine va_calli (va_runV (As := [.int 4]) (rest := []) ⟨hx, hb, hml, hown, hts⟩ (k8_room_8_4 l dC dI kB kI kJ kZ kC kS s.heap.size xa1 xa2) (cwV 1 hts gX8_append_X8_hasRoomFor rfl rfl rfl (by decide +kernel) ⟨Nat.le_of_ble_eq_true rfl, Nat.le_of_ble_eq_true rfl⟩) ⟨fun a U g mk q => by obtain ⟨q0, q1, qP, qE, qD⟩ := q; exact ⟨q0, q1, qP, kE_call qE, qD⟩, va_recv hK hP (ci := 8) (q0 := 0) rfl rfl, fun U hU hW => ⟨rfl, by rw [hU], by rw [hU]; exact hPc, kE_warm hW hE, hDc.weaken (fun _ _ _ _ => trivial)⟩⟩ rfl rfl hl.1 rfl (lv_room (Nat.le_of_ble_eq_true rfl)) dX8_append_2 ⟨Nat.le_of_ble_eq_true rfl, Nat.le_of_ble_eq_true rfl⟩) hS (fun q _ h => hFc q h) hFc (fun r1 u t H1 locs ht hvm w2 hB hz1 hk1 hS => ?_)
  obtain ⟨hP1, hD1⟩ := hB
  rw [ht] at hP1
  try dsimp only at w2
  obtain ⟨hP, hD⟩ := va_join (wr := [(xa2, .inl (kB, 700, .inl f1))]) (w1 := [(xa1, .inr (8, [.ref xa2, .int 8]))]) hP hD [0] [1] rfl rfl (by decide) (by decide) hk1 hFc hP1 hD1
  generalize H1 = H at hP hS ⊢
  have hP : va_P (dC, dI) vwCl [(xa2, .inl (kB, 700, .inl f1)), (xa1, .inr (8, [.ref xa2, .int 8]))] H := hP
  have hD : va_D A [(xa2, .inl (kB, 700, .inl f1)), (xa1, .inr (8, [.ref xa2, .int 8]))] := hD
  refine W.widen (k := 0) (n := 0) (Nat.le_of_ble_eq_true rfl) (Nat.le_of_ble_eq_true rfl) ?_
  subst w2
  refine lv_if_ne (tgt := 9) hx hb dX8_append_5 (by decide) (fun _ => ?_) (fun c9 => absurd c9 (by decide))
  refine lv_bipush (v := 24) hx hb dX8_append_9 (by decide) ?_
  refine lv_istore_n (lv' := [(2, .int 24), (0, .ref xa1), (1, .int p0)]) hx hb dX8_append_11 rfl hl (by decide) rfl (fun ls hl => ?_)
  refine lv_iload_n hx hb dX8_append_12 rfl (lv_at hl 0 rfl) ?_
  refine lv_if_lt (tgt := 45) hx hb dX8_append_13 (by decide) (fun c9 => absurd c9 (by decide)) (fun _ => ?_)
  refine lv_aload_n hx hb dX8_append_16 rfl (lv_at hl 1 rfl) ?_
  refine va_get (D := (dC, dI)) (ci := 8) (v := .ref xa2) (C := RX8) (T := TX8) (N := 2) hx hb hts hin8 hown hK hP 1 rfl rfl 0 (by decide) (hts (.fieldLink RX8 9 "PathProber$Tape" "bytes" "[B") (List.mem_of_getElem? (i := 1) (by decide +kernel))) (fun _ h9 => h9) rfl dX8_append_17 ?_
  refine lv_aload_n hx hb dX8_append_20 rfl (lv_at hl 1 rfl) ?_
  refine va_get (D := (dC, dI)) (ci := 8) (v := .int 8) (C := RX8) (T := TX8) (N := 2) hx hb hts hin8 hown hK hP 1 rfl rfl 1 (by decide) (hts (.fieldLink RX8 15 "PathProber$Tape" "length" "I") (List.mem_of_getElem? (i := 2) (by decide +kernel))) (fun _ h9 => h9) rfl dX8_append_21 ?_
  refine lv_iload_n hx hb dX8_append_24 rfl (lv_at hl 2 rfl) ?_
  refine lv_iload_n hx hb dX8_append_25 rfl (lv_at hl 0 rfl) ?_
  refine lv_ishr hx hb dX8_append_26 ?_
  refine lv_i2b (v := (p0 >>> ((24 : Int32) &&& 31)).toInt8.toInt32) hx hb dX8_append_27 rfl ?_
  refine va_bast hx hb hK hP hD hS 0 0 rfl rfl (vp_in_nI (n := 8) (by decide) (by decide)) dX8_append_28 (fun H locs hP hD hS => ?_)
  have hP : va_P (dC, dI) vwCl [(xa2, .inl (kB, 700, .inl (upd f1 8 (vp_nar .byte ((p0 >>> ((24 : Int32) &&& 31)).toInt8.toInt32))))), (xa1, .inr (8, [.ref xa2, .int 8]))] H := hP
  have hD : va_D A [(xa2, .inl (kB, 700, .inl (upd f1 8 (vp_nar .byte ((p0 >>> ((24 : Int32) &&& 31)).toInt8.toInt32))))), (xa1, .inr (8, [.ref xa2, .int 8]))] := hD
  generalize (upd f1 8 (vp_nar .byte ((p0 >>> ((24 : Int32) &&& 31)).toInt8.toInt32))) = f3 at hP hD
  refine lv_aload_n hx hb dX8_append_29 rfl (lv_at hl 1 rfl) ?_
  refine lv_dup hx hb dX8_append_30 rfl ?_
  refine va_get (D := (dC, dI)) (ci := 8) (v := .int 8) (C := RX8) (T := TX8) (N := 2) hx hb hts hin8 hown hK hP 1 rfl rfl 1 (by decide) (hts (.fieldLink RX8 15 "PathProber$Tape" "length" "I") (List.mem_of_getElem? (i := 2) (by decide +kernel))) (fun _ h9 => h9) rfl dX8_append_31 ?_
  refine lv_iconst (v := 1) hx hb dX8_append_34 (by decide) ?_
  refine lv_iadd hx hb dX8_append_35 ?_
  refine lv_topi (fun z4 e5 => ?_)
  obtain rfl : z4 = (9 : Int32) := e5.trans (by decide)
  refine va_put (D := (dC, dI)) (ci := 8) (v := .int 9) (ty := .int) (C := RX8) (T := TX8) (N := 2) hx hb hts hin8 tyX8 tyX8_ok nmX8 hown hK hP hD hS 1 rfl rfl 1 (by decide) (hts (.fieldLink RX8 15 "PathProber$Tape" "length" "I") (List.mem_of_getElem? (i := 2) (by decide +kernel))) (fun _ h9 => h9) rfl (by decide +kernel) rfl rfl (Nat.le_of_ble_eq_true rfl) dX8_append_36 (fun H locs hP hD hS => ?_)
  have hP : va_P (dC, dI) vwCl [(xa2, .inl (kB, 700, .inl f3)), (xa1, .inr (8, [.ref xa2, .int 9]))] H := hP
  have hD : va_D A [(xa2, .inl (kB, 700, .inl f3)), (xa1, .inr (8, [.ref xa2, .int 9]))] := hD
  refine lv_iinc (v := 16) (lv' := [(2, .int 16), (0, .ref xa1), (1, .int p0)]) hx hb dX8_append_39 hl (k := 0) rfl (by decide) (by decide) rfl (fun ls hl => ?_)
  refine lv_goto (tgt := 12) hx hb dX8_append_42 (by decide) ?_
  refine lv_iload_n hx hb dX8_append_12 rfl (lv_at hl 0 rfl) ?_
  refine lv_if_lt (tgt := 45) hx hb dX8_append_13 (by decide) (fun c9 => absurd c9 (by decide)) (fun _ => ?_)
  refine lv_aload_n hx hb dX8_append_16 rfl (lv_at hl 1 rfl) ?_
  refine va_get (D := (dC, dI)) (ci := 8) (v := .ref xa2) (C := RX8) (T := TX8) (N := 2) hx hb hts hin8 hown hK hP 1 rfl rfl 0 (by decide) (hts (.fieldLink RX8 9 "PathProber$Tape" "bytes" "[B") (List.mem_of_getElem? (i := 1) (by decide +kernel))) (fun _ h9 => h9) rfl dX8_append_17 ?_
  refine lv_aload_n hx hb dX8_append_20 rfl (lv_at hl 1 rfl) ?_
  refine va_get (D := (dC, dI)) (ci := 8) (v := .int 9) (C := RX8) (T := TX8) (N := 2) hx hb hts hin8 hown hK hP 1 rfl rfl 1 (by decide) (hts (.fieldLink RX8 15 "PathProber$Tape" "length" "I") (List.mem_of_getElem? (i := 2) (by decide +kernel))) (fun _ h9 => h9) rfl dX8_append_21 ?_
  refine lv_iload_n hx hb dX8_append_24 rfl (lv_at hl 2 rfl) ?_
  refine lv_iload_n hx hb dX8_append_25 rfl (lv_at hl 0 rfl) ?_
  refine lv_ishr hx hb dX8_append_26 ?_
  refine lv_i2b (v := (p0 >>> ((16 : Int32) &&& 31)).toInt8.toInt32) hx hb dX8_append_27 rfl ?_
  refine va_bast hx hb hK hP hD hS 0 0 rfl rfl (vp_in_nI (n := 9) (by decide) (by decide)) dX8_append_28 (fun H locs hP hD hS => ?_)
  have hP : va_P (dC, dI) vwCl [(xa2, .inl (kB, 700, .inl (upd f3 9 (vp_nar .byte ((p0 >>> ((16 : Int32) &&& 31)).toInt8.toInt32))))), (xa1, .inr (8, [.ref xa2, .int 9]))] H := hP
  have hD : va_D A [(xa2, .inl (kB, 700, .inl (upd f3 9 (vp_nar .byte ((p0 >>> ((16 : Int32) &&& 31)).toInt8.toInt32))))), (xa1, .inr (8, [.ref xa2, .int 9]))] := hD
  generalize (upd f3 9 (vp_nar .byte ((p0 >>> ((16 : Int32) &&& 31)).toInt8.toInt32))) = f6 at hP hD
  refine lv_aload_n hx hb dX8_append_29 rfl (lv_at hl 1 rfl) ?_
  refine lv_dup hx hb dX8_append_30 rfl ?_
  refine va_get (D := (dC, dI)) (ci := 8) (v := .int 9) (C := RX8) (T := TX8) (N := 2) hx hb hts hin8 hown hK hP 1 rfl rfl 1 (by decide) (hts (.fieldLink RX8 15 "PathProber$Tape" "length" "I") (List.mem_of_getElem? (i := 2) (by decide +kernel))) (fun _ h9 => h9) rfl dX8_append_31 ?_
  refine lv_iconst (v := 1) hx hb dX8_append_34 (by decide) ?_
  refine lv_iadd hx hb dX8_append_35 ?_
  refine lv_topi (fun z7 e8 => ?_)
  obtain rfl : z7 = (10 : Int32) := e8.trans (by decide)
  refine va_put (D := (dC, dI)) (ci := 8) (v := .int 10) (ty := .int) (C := RX8) (T := TX8) (N := 2) hx hb hts hin8 tyX8 tyX8_ok nmX8 hown hK hP hD hS 1 rfl rfl 1 (by decide) (hts (.fieldLink RX8 15 "PathProber$Tape" "length" "I") (List.mem_of_getElem? (i := 2) (by decide +kernel))) (fun _ h9 => h9) rfl (by decide +kernel) rfl rfl (Nat.le_of_ble_eq_true rfl) dX8_append_36 (fun H locs hP hD hS => ?_)
  have hP : va_P (dC, dI) vwCl [(xa2, .inl (kB, 700, .inl f6)), (xa1, .inr (8, [.ref xa2, .int 10]))] H := hP
  have hD : va_D A [(xa2, .inl (kB, 700, .inl f6)), (xa1, .inr (8, [.ref xa2, .int 10]))] := hD
  refine lv_iinc (v := 8) (lv' := [(2, .int 8), (0, .ref xa1), (1, .int p0)]) hx hb dX8_append_39 hl (k := 0) rfl (by decide) (by decide) rfl (fun ls hl => ?_)
  refine lv_goto (tgt := 12) hx hb dX8_append_42 (by decide) ?_
  refine lv_iload_n hx hb dX8_append_12 rfl (lv_at hl 0 rfl) ?_
  refine lv_if_lt (tgt := 45) hx hb dX8_append_13 (by decide) (fun c9 => absurd c9 (by decide)) (fun _ => ?_)
  refine lv_aload_n hx hb dX8_append_16 rfl (lv_at hl 1 rfl) ?_
  refine va_get (D := (dC, dI)) (ci := 8) (v := .ref xa2) (C := RX8) (T := TX8) (N := 2) hx hb hts hin8 hown hK hP 1 rfl rfl 0 (by decide) (hts (.fieldLink RX8 9 "PathProber$Tape" "bytes" "[B") (List.mem_of_getElem? (i := 1) (by decide +kernel))) (fun _ h9 => h9) rfl dX8_append_17 ?_
  refine lv_aload_n hx hb dX8_append_20 rfl (lv_at hl 1 rfl) ?_
  refine va_get (D := (dC, dI)) (ci := 8) (v := .int 10) (C := RX8) (T := TX8) (N := 2) hx hb hts hin8 hown hK hP 1 rfl rfl 1 (by decide) (hts (.fieldLink RX8 15 "PathProber$Tape" "length" "I") (List.mem_of_getElem? (i := 2) (by decide +kernel))) (fun _ h9 => h9) rfl dX8_append_21 ?_
  refine lv_iload_n hx hb dX8_append_24 rfl (lv_at hl 2 rfl) ?_
  refine lv_iload_n hx hb dX8_append_25 rfl (lv_at hl 0 rfl) ?_
  refine lv_ishr hx hb dX8_append_26 ?_
  refine lv_i2b (v := (p0 >>> ((8 : Int32) &&& 31)).toInt8.toInt32) hx hb dX8_append_27 rfl ?_
  refine va_bast hx hb hK hP hD hS 0 0 rfl rfl (vp_in_nI (n := 10) (by decide) (by decide)) dX8_append_28 (fun H locs hP hD hS => ?_)
  have hP : va_P (dC, dI) vwCl [(xa2, .inl (kB, 700, .inl (upd f6 10 (vp_nar .byte ((p0 >>> ((8 : Int32) &&& 31)).toInt8.toInt32))))), (xa1, .inr (8, [.ref xa2, .int 10]))] H := hP
  have hD : va_D A [(xa2, .inl (kB, 700, .inl (upd f6 10 (vp_nar .byte ((p0 >>> ((8 : Int32) &&& 31)).toInt8.toInt32))))), (xa1, .inr (8, [.ref xa2, .int 10]))] := hD
  generalize (upd f6 10 (vp_nar .byte ((p0 >>> ((8 : Int32) &&& 31)).toInt8.toInt32))) = f9 at hP hD
  refine lv_aload_n hx hb dX8_append_29 rfl (lv_at hl 1 rfl) ?_
  refine lv_dup hx hb dX8_append_30 rfl ?_
  refine va_get (D := (dC, dI)) (ci := 8) (v := .int 10) (C := RX8) (T := TX8) (N := 2) hx hb hts hin8 hown hK hP 1 rfl rfl 1 (by decide) (hts (.fieldLink RX8 15 "PathProber$Tape" "length" "I") (List.mem_of_getElem? (i := 2) (by decide +kernel))) (fun _ h9 => h9) rfl dX8_append_31 ?_
  refine lv_iconst (v := 1) hx hb dX8_append_34 (by decide) ?_
  refine lv_iadd hx hb dX8_append_35 ?_
  refine lv_topi (fun z10 e11 => ?_)
  obtain rfl : z10 = (11 : Int32) := e11.trans (by decide)
  refine va_put (D := (dC, dI)) (ci := 8) (v := .int 11) (ty := .int) (C := RX8) (T := TX8) (N := 2) hx hb hts hin8 tyX8 tyX8_ok nmX8 hown hK hP hD hS 1 rfl rfl 1 (by decide) (hts (.fieldLink RX8 15 "PathProber$Tape" "length" "I") (List.mem_of_getElem? (i := 2) (by decide +kernel))) (fun _ h9 => h9) rfl (by decide +kernel) rfl rfl (Nat.le_of_ble_eq_true rfl) dX8_append_36 (fun H locs hP hD hS => ?_)
  have hP : va_P (dC, dI) vwCl [(xa2, .inl (kB, 700, .inl f9)), (xa1, .inr (8, [.ref xa2, .int 11]))] H := hP
  have hD : va_D A [(xa2, .inl (kB, 700, .inl f9)), (xa1, .inr (8, [.ref xa2, .int 11]))] := hD
  refine lv_iinc (v := 0) (lv' := [(2, .int 0), (0, .ref xa1), (1, .int p0)]) hx hb dX8_append_39 hl (k := 0) rfl (by decide) (by decide) rfl (fun ls hl => ?_)
  refine lv_goto (tgt := 12) hx hb dX8_append_42 (by decide) ?_
  refine lv_iload_n hx hb dX8_append_12 rfl (lv_at hl 0 rfl) ?_
  refine lv_if_lt (tgt := 45) hx hb dX8_append_13 (by decide) (fun c9 => absurd c9 (by decide)) (fun _ => ?_)
  refine lv_aload_n hx hb dX8_append_16 rfl (lv_at hl 1 rfl) ?_
  refine va_get (D := (dC, dI)) (ci := 8) (v := .ref xa2) (C := RX8) (T := TX8) (N := 2) hx hb hts hin8 hown hK hP 1 rfl rfl 0 (by decide) (hts (.fieldLink RX8 9 "PathProber$Tape" "bytes" "[B") (List.mem_of_getElem? (i := 1) (by decide +kernel))) (fun _ h9 => h9) rfl dX8_append_17 ?_
  refine lv_aload_n hx hb dX8_append_20 rfl (lv_at hl 1 rfl) ?_
  refine va_get (D := (dC, dI)) (ci := 8) (v := .int 11) (C := RX8) (T := TX8) (N := 2) hx hb hts hin8 hown hK hP 1 rfl rfl 1 (by decide) (hts (.fieldLink RX8 15 "PathProber$Tape" "length" "I") (List.mem_of_getElem? (i := 2) (by decide +kernel))) (fun _ h9 => h9) rfl dX8_append_21 ?_
  refine lv_iload_n hx hb dX8_append_24 rfl (lv_at hl 2 rfl) ?_
  refine lv_iload_n hx hb dX8_append_25 rfl (lv_at hl 0 rfl) ?_
  refine lv_ishr hx hb dX8_append_26 ?_
  refine lv_i2b (v := (p0 >>> ((0 : Int32) &&& 31)).toInt8.toInt32) hx hb dX8_append_27 rfl ?_
  refine va_bast hx hb hK hP hD hS 0 0 rfl rfl (vp_in_nI (n := 11) (by decide) (by decide)) dX8_append_28 (fun H locs hP hD hS => ?_)
  have hP : va_P (dC, dI) vwCl [(xa2, .inl (kB, 700, .inl (upd f9 11 (vp_nar .byte ((p0 >>> ((0 : Int32) &&& 31)).toInt8.toInt32))))), (xa1, .inr (8, [.ref xa2, .int 11]))] H := hP
  have hD : va_D A [(xa2, .inl (kB, 700, .inl (upd f9 11 (vp_nar .byte ((p0 >>> ((0 : Int32) &&& 31)).toInt8.toInt32))))), (xa1, .inr (8, [.ref xa2, .int 11]))] := hD
  generalize (upd f9 11 (vp_nar .byte ((p0 >>> ((0 : Int32) &&& 31)).toInt8.toInt32))) = f12 at hP hD
  refine lv_aload_n hx hb dX8_append_29 rfl (lv_at hl 1 rfl) ?_
  refine lv_dup hx hb dX8_append_30 rfl ?_
  refine va_get (D := (dC, dI)) (ci := 8) (v := .int 11) (C := RX8) (T := TX8) (N := 2) hx hb hts hin8 hown hK hP 1 rfl rfl 1 (by decide) (hts (.fieldLink RX8 15 "PathProber$Tape" "length" "I") (List.mem_of_getElem? (i := 2) (by decide +kernel))) (fun _ h9 => h9) rfl dX8_append_31 ?_
  refine lv_iconst (v := 1) hx hb dX8_append_34 (by decide) ?_
  refine lv_iadd hx hb dX8_append_35 ?_
  refine lv_topi (fun z13 e14 => ?_)
  obtain rfl : z13 = (12 : Int32) := e14.trans (by decide)
  refine va_put (D := (dC, dI)) (ci := 8) (v := .int 12) (ty := .int) (C := RX8) (T := TX8) (N := 2) hx hb hts hin8 tyX8 tyX8_ok nmX8 hown hK hP hD hS 1 rfl rfl 1 (by decide) (hts (.fieldLink RX8 15 "PathProber$Tape" "length" "I") (List.mem_of_getElem? (i := 2) (by decide +kernel))) (fun _ h9 => h9) rfl (by decide +kernel) rfl rfl (Nat.le_of_ble_eq_true rfl) dX8_append_36 (fun H locs hP hD hS => ?_)
  have hP : va_P (dC, dI) vwCl [(xa2, .inl (kB, 700, .inl f12)), (xa1, .inr (8, [.ref xa2, .int 12]))] H := hP
  have hD : va_D A [(xa2, .inl (kB, 700, .inl f12)), (xa1, .inr (8, [.ref xa2, .int 12]))] := hD
  refine lv_iinc (v := (-8)) (lv' := [(2, .int (-8)), (0, .ref xa1), (1, .int p0)]) hx hb dX8_append_39 hl (k := 0) rfl (by decide) (by decide) rfl (fun ls hl => ?_)
  refine lv_goto (tgt := 12) hx hb dX8_append_42 (by decide) ?_
  refine lv_iload_n hx hb dX8_append_12 rfl (lv_at hl 0 rfl) ?_
  refine lv_if_lt (tgt := 45) hx hb dX8_append_13 (by decide) (fun _ => ?_) (fun c9 => absurd (by decide) c9)
  have hP9 := hP.sub (ws' := [(xa1, .inr (8, [.ref xa2, .int 12])), (xa2, .inl (kB, 700, .inl f12))]) [1, 0] rfl
  have hD9 := hD.sub (ws' := [(xa1, .inr (8, [.ref xa2, .int 12])), (xa2, .inl (kB, 700, .inl f12))]) [1, 0] (by decide) rfl
  exact W.vret hx hb hr (fun t ht hW => ⟨⟨(), rfl, trivial, f12, by rw [ht]; exact hP9, hD9⟩, hS.F ht⟩) hS.2.2 dX8_append_45
def rm_k8_append_12 : Room := { frames := 1, cells := 0, slots := 0, locals := 21 }
set_option maxHeartbeats 4000000 in
set_option maxRecDepth 100000 in
theorem k8_append_12 (l : Launch) (dC : Nat → ClassId) (dI : Nat → Nat → Nat) (kB kI kJ kZ kC kS : ClassId) (sz : Nat) (xa1 : Nat) (xa2 : Nat) (p0 : Int32) (f1 : Nat → Int32) : Met l yX8_append wsX8_append rm_k8_append_12 (va_Pc [.ref xa1, .int p0] (fun U => U.heap.size = sz ∧ va_P (dC, dI) vwCl [(xa1, .inr (8, [.ref xa2, .int 12])), (xa2, .inl (kB, 700, .inl f1))] U.heap ∧ kE dC dI kB kI kJ kZ kC kS U ∧ va_D (fun _ => True) [(xa1, .inr (8, [.ref xa2, .int 12])), (xa2, .inl (kB, 700, .inl f1))])) (va_Qv (fun (_ : Unit) => True) (fun _ t => ∃ (g1 : Nat → Int32), va_P (dC, dI) vwCl [(xa1, .inr (8, [.ref xa2, .int 16])), (xa2, .inl (kB, 700, .inl g1))] t.heap ∧ va_D (va_A [(xa1, .inr (8, [.ref xa2, .int 12])), (xa2, .inl (kB, 700, .inl f1))] sz) [(xa1, .inr (8, [.ref xa2, .int 16])), (xa2, .inl (kB, 700, .inl g1))]) (va_A [(xa1, .inr (8, [.ref xa2, .int 12])), (xa2, .inl (kB, 700, .inl f1))] sz)) 0 0 (va_A [(xa1, .inr (8, [.ref xa2, .int 12])), (xa2, .inl (kB, 700, .inl f1))] sz) := by
  refine Met.ofW (cc := cX8_append) (maxL := 3) (ret := none) (by decide) rfl ?_
  intro p e s m args0 below meth c s₁ B hml hv
  obtain ⟨hargs, hsz, hP, hE, hD0⟩ := hv
  have hx := B.exec
  have hb := B.bytes
  have hr := B.returns
  have hts := atoms_spec (ws := wsX8_append) B.pre
  have hown : s.vm.findClass RX8 = some m.cls := findClass_of_methodNamed B.named
  have hlocks := B.notSynchronized
  have hK := hE.1
  have hin8 : ∀ w ∈ wsX80, w ∈ wsX8_append := fun _ h9 => List.mem_cons_of_mem _ (List.mem_append_right _ h9)
  subst hsz
  have hD := hD0.self (sz := s.heap.size)
  generalize hAe : va_A [(xa1, .inr (8, [.ref xa2, .int 12])), (xa2, .inl (kB, 700, .inl f1))] s.heap.size = A at hD ⊢
  have hA : ∀ q : Nat, s.heap.size ≤ q → A q := fun q h => by rw [← hAe]; exact Or.inr h
  have hS : va_S A s.heap s.heap [] := va_S.rf
  have hP : va_P (dC, dI) vwCl [(xa1, .inr (8, [.ref xa2, .int 12])), (xa2, .inl (kB, 700, .inl f1))] s.heap := hP
  have hl := lv_entry ([.ref xa1, .int p0]) (n := 3) (Nat.le_of_ble_eq_true rfl)
  have hla : entryFrame m args0 3 = entryFrame m ([.ref xa1, .int p0] : List Value).toArray 3 := by rw [hargs]
  rw [hla, lg_entry_eq]
  generalize (lg_sl ([.ref xa1, .int p0]) ++ List.replicate (3 - (lg_sl ([.ref xa1, .int p0])).length) Slot.unset).toArray = ls at hl ⊢
  have hl : lv_has ls 3 [(0, .ref xa1), (1, .int p0)] := hl
  refine lv_aload_n hx hb dX8_append_0 rfl (lv_at hl 0 rfl) ?_
  refine lv_iconst (v := 4) hx hb dX8_append_1 (by decide) ?_
  have hPc := hP.sub (ws' := [(xa1, .inr (8, [.ref xa2, .int 12]))]) [0] rfl
  have hDc := hD.sub (ws' := [(xa1, .inr (8, [.ref xa2, .int 12]))]) [0] (by decide) rfl
  have hFc := va_free (wc := [(xa1, .inr (8, [.ref xa2, .int 12]))]) hD hS hA [0] rfl
  refine va_calli (va_runV (As := [.int 4]) (rest := []) ⟨hx, hb, hml, hown, hts⟩ (k8_room_12_4 l dC dI kB kI kJ kZ kC kS s.heap.size xa1 xa2) (cwV 1 hts gX8_append_X8_hasRoomFor rfl rfl rfl (by decide +kernel) ⟨Nat.le_of_ble_eq_true rfl, Nat.le_of_ble_eq_true rfl⟩) ⟨fun a U g mk q => by obtain ⟨q0, q1, qP, qE, qD⟩ := q; exact ⟨q0, q1, qP, kE_call qE, qD⟩, va_recv hK hP (ci := 8) (q0 := 0) rfl rfl, fun U hU hW => ⟨rfl, by rw [hU], by rw [hU]; exact hPc, kE_warm hW hE, hDc.weaken (fun _ _ _ _ => trivial)⟩⟩ rfl rfl hl.1 rfl (lv_room (Nat.le_of_ble_eq_true rfl)) dX8_append_2 ⟨Nat.le_of_ble_eq_true rfl, Nat.le_of_ble_eq_true rfl⟩) hS (fun q _ h => hFc q h) hFc (fun r1 u t H1 locs ht hvm w2 hB hz1 hk1 hS => ?_)
  obtain ⟨hP1, hD1⟩ := hB
  rw [ht] at hP1
  try dsimp only at w2
  obtain ⟨hP, hD⟩ := va_join (wr := [(xa2, .inl (kB, 700, .inl f1))]) (w1 := [(xa1, .inr (8, [.ref xa2, .int 12]))]) hP hD [0] [1] rfl rfl (by decide) (by decide) hk1 hFc hP1 hD1
  generalize H1 = H at hP hS ⊢
  have hP : va_P (dC, dI) vwCl [(xa2, .inl (kB, 700, .inl f1)), (xa1, .inr (8, [.ref xa2, .int 12]))] H := hP
  have hD : va_D A [(xa2, .inl (kB, 700, .inl f1)), (xa1, .inr (8, [.ref xa2, .int 12]))] := hD
  refine W.widen (k := 0) (n := 0) (Nat.le_of_ble_eq_true rfl) (Nat.le_of_ble_eq_true rfl) ?_
  subst w2
  refine lv_if_ne (tgt := 9) hx hb dX8_append_5 (by decide) (fun _ => ?_) (fun c9 => absurd c9 (by decide))
  refine lv_bipush (v := 24) hx hb dX8_append_9 (by decide) ?_
  refine lv_istore_n (lv' := [(2, .int 24), (0, .ref xa1), (1, .int p0)]) hx hb dX8_append_11 rfl hl (by decide) rfl (fun ls hl => ?_)
  refine lv_iload_n hx hb dX8_append_12 rfl (lv_at hl 0 rfl) ?_
  refine lv_if_lt (tgt := 45) hx hb dX8_append_13 (by decide) (fun c9 => absurd c9 (by decide)) (fun _ => ?_)
  refine lv_aload_n hx hb dX8_append_16 rfl (lv_at hl 1 rfl) ?_
  refine va_get (D := (dC, dI)) (ci := 8) (v := .ref xa2) (C := RX8) (T := TX8) (N := 2) hx hb hts hin8 hown hK hP 1 rfl rfl 0 (by decide) (hts (.fieldLink RX8 9 "PathProber$Tape" "bytes" "[B") (List.mem_of_getElem? (i := 1) (by decide +kernel))) (fun _ h9 => h9) rfl dX8_append_17 ?_
  refine lv_aload_n hx hb dX8_append_20 rfl (lv_at hl 1 rfl) ?_
  refine va_get (D := (dC, dI)) (ci := 8) (v := .int 12) (C := RX8) (T := TX8) (N := 2) hx hb hts hin8 hown hK hP 1 rfl rfl 1 (by decide) (hts (.fieldLink RX8 15 "PathProber$Tape" "length" "I") (List.mem_of_getElem? (i := 2) (by decide +kernel))) (fun _ h9 => h9) rfl dX8_append_21 ?_
  refine lv_iload_n hx hb dX8_append_24 rfl (lv_at hl 2 rfl) ?_
  refine lv_iload_n hx hb dX8_append_25 rfl (lv_at hl 0 rfl) ?_
  refine lv_ishr hx hb dX8_append_26 ?_
  refine lv_i2b (v := (p0 >>> ((24 : Int32) &&& 31)).toInt8.toInt32) hx hb dX8_append_27 rfl ?_
  refine va_bast hx hb hK hP hD hS 0 0 rfl rfl (vp_in_nI (n := 12) (by decide) (by decide)) dX8_append_28 (fun H locs hP hD hS => ?_)
  have hP : va_P (dC, dI) vwCl [(xa2, .inl (kB, 700, .inl (upd f1 12 (vp_nar .byte ((p0 >>> ((24 : Int32) &&& 31)).toInt8.toInt32))))), (xa1, .inr (8, [.ref xa2, .int 12]))] H := hP
  have hD : va_D A [(xa2, .inl (kB, 700, .inl (upd f1 12 (vp_nar .byte ((p0 >>> ((24 : Int32) &&& 31)).toInt8.toInt32))))), (xa1, .inr (8, [.ref xa2, .int 12]))] := hD
  generalize (upd f1 12 (vp_nar .byte ((p0 >>> ((24 : Int32) &&& 31)).toInt8.toInt32))) = f3 at hP hD
  refine lv_aload_n hx hb dX8_append_29 rfl (lv_at hl 1 rfl) ?_
  refine lv_dup hx hb dX8_append_30 rfl ?_
  refine va_get (D := (dC, dI)) (ci := 8) (v := .int 12) (C := RX8) (T := TX8) (N := 2) hx hb hts hin8 hown hK hP 1 rfl rfl 1 (by decide) (hts (.fieldLink RX8 15 "PathProber$Tape" "length" "I") (List.mem_of_getElem? (i := 2) (by decide +kernel))) (fun _ h9 => h9) rfl dX8_append_31 ?_
  refine lv_iconst (v := 1) hx hb dX8_append_34 (by decide) ?_
  refine lv_iadd hx hb dX8_append_35 ?_
  refine lv_topi (fun z4 e5 => ?_)
  obtain rfl : z4 = (13 : Int32) := e5.trans (by decide)
  refine va_put (D := (dC, dI)) (ci := 8) (v := .int 13) (ty := .int) (C := RX8) (T := TX8) (N := 2) hx hb hts hin8 tyX8 tyX8_ok nmX8 hown hK hP hD hS 1 rfl rfl 1 (by decide) (hts (.fieldLink RX8 15 "PathProber$Tape" "length" "I") (List.mem_of_getElem? (i := 2) (by decide +kernel))) (fun _ h9 => h9) rfl (by decide +kernel) rfl rfl (Nat.le_of_ble_eq_true rfl) dX8_append_36 (fun H locs hP hD hS => ?_)
  have hP : va_P (dC, dI) vwCl [(xa2, .inl (kB, 700, .inl f3)), (xa1, .inr (8, [.ref xa2, .int 13]))] H := hP
  have hD : va_D A [(xa2, .inl (kB, 700, .inl f3)), (xa1, .inr (8, [.ref xa2, .int 13]))] := hD
  refine lv_iinc (v := 16) (lv' := [(2, .int 16), (0, .ref xa1), (1, .int p0)]) hx hb dX8_append_39 hl (k := 0) rfl (by decide) (by decide) rfl (fun ls hl => ?_)
  refine lv_goto (tgt := 12) hx hb dX8_append_42 (by decide) ?_
  refine lv_iload_n hx hb dX8_append_12 rfl (lv_at hl 0 rfl) ?_
  refine lv_if_lt (tgt := 45) hx hb dX8_append_13 (by decide) (fun c9 => absurd c9 (by decide)) (fun _ => ?_)
  refine lv_aload_n hx hb dX8_append_16 rfl (lv_at hl 1 rfl) ?_
  refine va_get (D := (dC, dI)) (ci := 8) (v := .ref xa2) (C := RX8) (T := TX8) (N := 2) hx hb hts hin8 hown hK hP 1 rfl rfl 0 (by decide) (hts (.fieldLink RX8 9 "PathProber$Tape" "bytes" "[B") (List.mem_of_getElem? (i := 1) (by decide +kernel))) (fun _ h9 => h9) rfl dX8_append_17 ?_
  refine lv_aload_n hx hb dX8_append_20 rfl (lv_at hl 1 rfl) ?_
  refine va_get (D := (dC, dI)) (ci := 8) (v := .int 13) (C := RX8) (T := TX8) (N := 2) hx hb hts hin8 hown hK hP 1 rfl rfl 1 (by decide) (hts (.fieldLink RX8 15 "PathProber$Tape" "length" "I") (List.mem_of_getElem? (i := 2) (by decide +kernel))) (fun _ h9 => h9) rfl dX8_append_21 ?_
  refine lv_iload_n hx hb dX8_append_24 rfl (lv_at hl 2 rfl) ?_
  refine lv_iload_n hx hb dX8_append_25 rfl (lv_at hl 0 rfl) ?_
  refine lv_ishr hx hb dX8_append_26 ?_
  refine lv_i2b (v := (p0 >>> ((16 : Int32) &&& 31)).toInt8.toInt32) hx hb dX8_append_27 rfl ?_
  refine va_bast hx hb hK hP hD hS 0 0 rfl rfl (vp_in_nI (n := 13) (by decide) (by decide)) dX8_append_28 (fun H locs hP hD hS => ?_)
  have hP : va_P (dC, dI) vwCl [(xa2, .inl (kB, 700, .inl (upd f3 13 (vp_nar .byte ((p0 >>> ((16 : Int32) &&& 31)).toInt8.toInt32))))), (xa1, .inr (8, [.ref xa2, .int 13]))] H := hP
  have hD : va_D A [(xa2, .inl (kB, 700, .inl (upd f3 13 (vp_nar .byte ((p0 >>> ((16 : Int32) &&& 31)).toInt8.toInt32))))), (xa1, .inr (8, [.ref xa2, .int 13]))] := hD
  generalize (upd f3 13 (vp_nar .byte ((p0 >>> ((16 : Int32) &&& 31)).toInt8.toInt32))) = f6 at hP hD
  refine lv_aload_n hx hb dX8_append_29 rfl (lv_at hl 1 rfl) ?_
  refine lv_dup hx hb dX8_append_30 rfl ?_
  refine va_get (D := (dC, dI)) (ci := 8) (v := .int 13) (C := RX8) (T := TX8) (N := 2) hx hb hts hin8 hown hK hP 1 rfl rfl 1 (by decide) (hts (.fieldLink RX8 15 "PathProber$Tape" "length" "I") (List.mem_of_getElem? (i := 2) (by decide +kernel))) (fun _ h9 => h9) rfl dX8_append_31 ?_
  refine lv_iconst (v := 1) hx hb dX8_append_34 (by decide) ?_
  refine lv_iadd hx hb dX8_append_35 ?_
  refine lv_topi (fun z7 e8 => ?_)
  obtain rfl : z7 = (14 : Int32) := e8.trans (by decide)
  refine va_put (D := (dC, dI)) (ci := 8) (v := .int 14) (ty := .int) (C := RX8) (T := TX8) (N := 2) hx hb hts hin8 tyX8 tyX8_ok nmX8 hown hK hP hD hS 1 rfl rfl 1 (by decide) (hts (.fieldLink RX8 15 "PathProber$Tape" "length" "I") (List.mem_of_getElem? (i := 2) (by decide +kernel))) (fun _ h9 => h9) rfl (by decide +kernel) rfl rfl (Nat.le_of_ble_eq_true rfl) dX8_append_36 (fun H locs hP hD hS => ?_)
  have hP : va_P (dC, dI) vwCl [(xa2, .inl (kB, 700, .inl f6)), (xa1, .inr (8, [.ref xa2, .int 14]))] H := hP
  have hD : va_D A [(xa2, .inl (kB, 700, .inl f6)), (xa1, .inr (8, [.ref xa2, .int 14]))] := hD
  refine lv_iinc (v := 8) (lv' := [(2, .int 8), (0, .ref xa1), (1, .int p0)]) hx hb dX8_append_39 hl (k := 0) rfl (by decide) (by decide) rfl (fun ls hl => ?_)
  refine lv_goto (tgt := 12) hx hb dX8_append_42 (by decide) ?_
  refine lv_iload_n hx hb dX8_append_12 rfl (lv_at hl 0 rfl) ?_
  refine lv_if_lt (tgt := 45) hx hb dX8_append_13 (by decide) (fun c9 => absurd c9 (by decide)) (fun _ => ?_)
  refine lv_aload_n hx hb dX8_append_16 rfl (lv_at hl 1 rfl) ?_
  refine va_get (D := (dC, dI)) (ci := 8) (v := .ref xa2) (C := RX8) (T := TX8) (N := 2) hx hb hts hin8 hown hK hP 1 rfl rfl 0 (by decide) (hts (.fieldLink RX8 9 "PathProber$Tape" "bytes" "[B") (List.mem_of_getElem? (i := 1) (by decide +kernel))) (fun _ h9 => h9) rfl dX8_append_17 ?_
  refine lv_aload_n hx hb dX8_append_20 rfl (lv_at hl 1 rfl) ?_
  refine va_get (D := (dC, dI)) (ci := 8) (v := .int 14) (C := RX8) (T := TX8) (N := 2) hx hb hts hin8 hown hK hP 1 rfl rfl 1 (by decide) (hts (.fieldLink RX8 15 "PathProber$Tape" "length" "I") (List.mem_of_getElem? (i := 2) (by decide +kernel))) (fun _ h9 => h9) rfl dX8_append_21 ?_
  refine lv_iload_n hx hb dX8_append_24 rfl (lv_at hl 2 rfl) ?_
  refine lv_iload_n hx hb dX8_append_25 rfl (lv_at hl 0 rfl) ?_
  refine lv_ishr hx hb dX8_append_26 ?_
  refine lv_i2b (v := (p0 >>> ((8 : Int32) &&& 31)).toInt8.toInt32) hx hb dX8_append_27 rfl ?_
  refine va_bast hx hb hK hP hD hS 0 0 rfl rfl (vp_in_nI (n := 14) (by decide) (by decide)) dX8_append_28 (fun H locs hP hD hS => ?_)
  have hP : va_P (dC, dI) vwCl [(xa2, .inl (kB, 700, .inl (upd f6 14 (vp_nar .byte ((p0 >>> ((8 : Int32) &&& 31)).toInt8.toInt32))))), (xa1, .inr (8, [.ref xa2, .int 14]))] H := hP
  have hD : va_D A [(xa2, .inl (kB, 700, .inl (upd f6 14 (vp_nar .byte ((p0 >>> ((8 : Int32) &&& 31)).toInt8.toInt32))))), (xa1, .inr (8, [.ref xa2, .int 14]))] := hD
  generalize (upd f6 14 (vp_nar .byte ((p0 >>> ((8 : Int32) &&& 31)).toInt8.toInt32))) = f9 at hP hD
  refine lv_aload_n hx hb dX8_append_29 rfl (lv_at hl 1 rfl) ?_
  refine lv_dup hx hb dX8_append_30 rfl ?_
  refine va_get (D := (dC, dI)) (ci := 8) (v := .int 14) (C := RX8) (T := TX8) (N := 2) hx hb hts hin8 hown hK hP 1 rfl rfl 1 (by decide) (hts (.fieldLink RX8 15 "PathProber$Tape" "length" "I") (List.mem_of_getElem? (i := 2) (by decide +kernel))) (fun _ h9 => h9) rfl dX8_append_31 ?_
  refine lv_iconst (v := 1) hx hb dX8_append_34 (by decide) ?_
  refine lv_iadd hx hb dX8_append_35 ?_
  refine lv_topi (fun z10 e11 => ?_)
  obtain rfl : z10 = (15 : Int32) := e11.trans (by decide)
  refine va_put (D := (dC, dI)) (ci := 8) (v := .int 15) (ty := .int) (C := RX8) (T := TX8) (N := 2) hx hb hts hin8 tyX8 tyX8_ok nmX8 hown hK hP hD hS 1 rfl rfl 1 (by decide) (hts (.fieldLink RX8 15 "PathProber$Tape" "length" "I") (List.mem_of_getElem? (i := 2) (by decide +kernel))) (fun _ h9 => h9) rfl (by decide +kernel) rfl rfl (Nat.le_of_ble_eq_true rfl) dX8_append_36 (fun H locs hP hD hS => ?_)
  have hP : va_P (dC, dI) vwCl [(xa2, .inl (kB, 700, .inl f9)), (xa1, .inr (8, [.ref xa2, .int 15]))] H := hP
  have hD : va_D A [(xa2, .inl (kB, 700, .inl f9)), (xa1, .inr (8, [.ref xa2, .int 15]))] := hD
  refine lv_iinc (v := 0) (lv' := [(2, .int 0), (0, .ref xa1), (1, .int p0)]) hx hb dX8_append_39 hl (k := 0) rfl (by decide) (by decide) rfl (fun ls hl => ?_)
  refine lv_goto (tgt := 12) hx hb dX8_append_42 (by decide) ?_
  refine lv_iload_n hx hb dX8_append_12 rfl (lv_at hl 0 rfl) ?_
  refine lv_if_lt (tgt := 45) hx hb dX8_append_13 (by decide) (fun c9 => absurd c9 (by decide)) (fun _ => ?_)
  refine lv_aload_n hx hb dX8_append_16 rfl (lv_at hl 1 rfl) ?_
  refine va_get (D := (dC, dI)) (ci := 8) (v := .ref xa2) (C := RX8) (T := TX8) (N := 2) hx hb hts hin8 hown hK hP 1 rfl rfl 0 (by decide) (hts (.fieldLink RX8 9 "PathProber$Tape" "bytes" "[B") (List.mem_of_getElem? (i := 1) (by decide +kernel))) (fun _ h9 => h9) rfl dX8_append_17 ?_
  refine lv_aload_n hx hb dX8_append_20 rfl (lv_at hl 1 rfl) ?_
  refine va_get (D := (dC, dI)) (ci := 8) (v := .int 15) (C := RX8) (T := TX8) (N := 2) hx hb hts hin8 hown hK hP 1 rfl rfl 1 (by decide) (hts (.fieldLink RX8 15 "PathProber$Tape" "length" "I") (List.mem_of_getElem? (i := 2) (by decide +kernel))) (fun _ h9 => h9) rfl dX8_append_21 ?_
  refine lv_iload_n hx hb dX8_append_24 rfl (lv_at hl 2 rfl) ?_
  refine lv_iload_n hx hb dX8_append_25 rfl (lv_at hl 0 rfl) ?_
  refine lv_ishr hx hb dX8_append_26 ?_
  refine lv_i2b (v := (p0 >>> ((0 : Int32) &&& 31)).toInt8.toInt32) hx hb dX8_append_27 rfl ?_
  refine va_bast hx hb hK hP hD hS 0 0 rfl rfl (vp_in_nI (n := 15) (by decide) (by decide)) dX8_append_28 (fun H locs hP hD hS => ?_)
  have hP : va_P (dC, dI) vwCl [(xa2, .inl (kB, 700, .inl (upd f9 15 (vp_nar .byte ((p0 >>> ((0 : Int32) &&& 31)).toInt8.toInt32))))), (xa1, .inr (8, [.ref xa2, .int 15]))] H := hP
  have hD : va_D A [(xa2, .inl (kB, 700, .inl (upd f9 15 (vp_nar .byte ((p0 >>> ((0 : Int32) &&& 31)).toInt8.toInt32))))), (xa1, .inr (8, [.ref xa2, .int 15]))] := hD
  generalize (upd f9 15 (vp_nar .byte ((p0 >>> ((0 : Int32) &&& 31)).toInt8.toInt32))) = f12 at hP hD
  refine lv_aload_n hx hb dX8_append_29 rfl (lv_at hl 1 rfl) ?_
  refine lv_dup hx hb dX8_append_30 rfl ?_
  refine va_get (D := (dC, dI)) (ci := 8) (v := .int 15) (C := RX8) (T := TX8) (N := 2) hx hb hts hin8 hown hK hP 1 rfl rfl 1 (by decide) (hts (.fieldLink RX8 15 "PathProber$Tape" "length" "I") (List.mem_of_getElem? (i := 2) (by decide +kernel))) (fun _ h9 => h9) rfl dX8_append_31 ?_
  refine lv_iconst (v := 1) hx hb dX8_append_34 (by decide) ?_
  refine lv_iadd hx hb dX8_append_35 ?_
  refine lv_topi (fun z13 e14 => ?_)
  obtain rfl : z13 = (16 : Int32) := e14.trans (by decide)
  refine va_put (D := (dC, dI)) (ci := 8) (v := .int 16) (ty := .int) (C := RX8) (T := TX8) (N := 2) hx hb hts hin8 tyX8 tyX8_ok nmX8 hown hK hP hD hS 1 rfl rfl 1 (by decide) (hts (.fieldLink RX8 15 "PathProber$Tape" "length" "I") (List.mem_of_getElem? (i := 2) (by decide +kernel))) (fun _ h9 => h9) rfl (by decide +kernel) rfl rfl (Nat.le_of_ble_eq_true rfl) dX8_append_36 (fun H locs hP hD hS => ?_)
  have hP : va_P (dC, dI) vwCl [(xa2, .inl (kB, 700, .inl f12)), (xa1, .inr (8, [.ref xa2, .int 16]))] H := hP
  have hD : va_D A [(xa2, .inl (kB, 700, .inl f12)), (xa1, .inr (8, [.ref xa2, .int 16]))] := hD
  refine lv_iinc (v := (-8)) (lv' := [(2, .int (-8)), (0, .ref xa1), (1, .int p0)]) hx hb dX8_append_39 hl (k := 0) rfl (by decide) (by decide) rfl (fun ls hl => ?_)
  refine lv_goto (tgt := 12) hx hb dX8_append_42 (by decide) ?_
  refine lv_iload_n hx hb dX8_append_12 rfl (lv_at hl 0 rfl) ?_
  refine lv_if_lt (tgt := 45) hx hb dX8_append_13 (by decide) (fun _ => ?_) (fun c9 => absurd (by decide) c9)
  have hP9 := hP.sub (ws' := [(xa1, .inr (8, [.ref xa2, .int 16])), (xa2, .inl (kB, 700, .inl f12))]) [1, 0] rfl
  have hD9 := hD.sub (ws' := [(xa1, .inr (8, [.ref xa2, .int 16])), (xa2, .inl (kB, 700, .inl f12))]) [1, 0] (by decide) rfl
  exact W.vret hx hb hr (fun t ht hW => ⟨⟨(), rfl, trivial, f12, by rw [ht]; exact hP9, hD9⟩, hS.F ht⟩) hS.2.2 dX8_append_45
def rm_k8_append_16 : Room := { frames := 1, cells := 0, slots := 0, locals := 21 }
set_option maxHeartbeats 4000000 in
set_option maxRecDepth 100000 in
theorem k8_append_16 (l : Launch) (dC : Nat → ClassId) (dI : Nat → Nat → Nat) (kB kI kJ kZ kC kS : ClassId) (sz : Nat) (xa1 : Nat) (xa2 : Nat) (p0 : Int32) (f1 : Nat → Int32) : Met l yX8_append wsX8_append rm_k8_append_16 (va_Pc [.ref xa1, .int p0] (fun U => U.heap.size = sz ∧ va_P (dC, dI) vwCl [(xa1, .inr (8, [.ref xa2, .int 16])), (xa2, .inl (kB, 700, .inl f1))] U.heap ∧ kE dC dI kB kI kJ kZ kC kS U ∧ va_D (fun _ => True) [(xa1, .inr (8, [.ref xa2, .int 16])), (xa2, .inl (kB, 700, .inl f1))])) (va_Qv (fun (_ : Unit) => True) (fun _ t => ∃ (g1 : Nat → Int32), va_P (dC, dI) vwCl [(xa1, .inr (8, [.ref xa2, .int 20])), (xa2, .inl (kB, 700, .inl g1))] t.heap ∧ va_D (va_A [(xa1, .inr (8, [.ref xa2, .int 16])), (xa2, .inl (kB, 700, .inl f1))] sz) [(xa1, .inr (8, [.ref xa2, .int 20])), (xa2, .inl (kB, 700, .inl g1))]) (va_A [(xa1, .inr (8, [.ref xa2, .int 16])), (xa2, .inl (kB, 700, .inl f1))] sz)) 0 0 (va_A [(xa1, .inr (8, [.ref xa2, .int 16])), (xa2, .inl (kB, 700, .inl f1))] sz) := by
  refine Met.ofW (cc := cX8_append) (maxL := 3) (ret := none) (by decide) rfl ?_
  intro p e s m args0 below meth c s₁ B hml hv
  obtain ⟨hargs, hsz, hP, hE, hD0⟩ := hv
  have hx := B.exec
  have hb := B.bytes
  have hr := B.returns
  have hts := atoms_spec (ws := wsX8_append) B.pre
  have hown : s.vm.findClass RX8 = some m.cls := findClass_of_methodNamed B.named
  have hlocks := B.notSynchronized
  have hK := hE.1
  have hin8 : ∀ w ∈ wsX80, w ∈ wsX8_append := fun _ h9 => List.mem_cons_of_mem _ (List.mem_append_right _ h9)
  subst hsz
  have hD := hD0.self (sz := s.heap.size)
  generalize hAe : va_A [(xa1, .inr (8, [.ref xa2, .int 16])), (xa2, .inl (kB, 700, .inl f1))] s.heap.size = A at hD ⊢
  have hA : ∀ q : Nat, s.heap.size ≤ q → A q := fun q h => by rw [← hAe]; exact Or.inr h
  have hS : va_S A s.heap s.heap [] := va_S.rf
  have hP : va_P (dC, dI) vwCl [(xa1, .inr (8, [.ref xa2, .int 16])), (xa2, .inl (kB, 700, .inl f1))] s.heap := hP
  have hl := lv_entry ([.ref xa1, .int p0]) (n := 3) (Nat.le_of_ble_eq_true rfl)
  have hla : entryFrame m args0 3 = entryFrame m ([.ref xa1, .int p0] : List Value).toArray 3 := by rw [hargs]
  rw [hla, lg_entry_eq]
  generalize (lg_sl ([.ref xa1, .int p0]) ++ List.replicate (3 - (lg_sl ([.ref xa1, .int p0])).length) Slot.unset).toArray = ls at hl ⊢
  have hl : lv_has ls 3 [(0, .ref xa1), (1, .int p0)] := hl
  refine lv_aload_n hx hb dX8_append_0 rfl (lv_at hl 0 rfl) ?_
  refine lv_iconst (v := 4) hx hb dX8_append_1 (by decide) ?_
  have hPc := hP.sub (ws' := [(xa1, .inr (8, [.ref xa2, .int 16]))]) [0] rfl
  have hDc := hD.sub (ws' := [(xa1, .inr (8, [.ref xa2, .int 16]))]) [0] (by decide) rfl
  have hFc := va_free (wc := [(xa1, .inr (8, [.ref xa2, .int 16]))]) hD hS hA [0] rfl
  refine va_calli (va_runV (As := [.int 4]) (rest := []) ⟨hx, hb, hml, hown, hts⟩ (k8_room_16_4 l dC dI kB kI kJ kZ kC kS s.heap.size xa1 xa2) (cwV 1 hts gX8_append_X8_hasRoomFor rfl rfl rfl (by decide +kernel) ⟨Nat.le_of_ble_eq_true rfl, Nat.le_of_ble_eq_true rfl⟩) ⟨fun a U g mk q => by obtain ⟨q0, q1, qP, qE, qD⟩ := q; exact ⟨q0, q1, qP, kE_call qE, qD⟩, va_recv hK hP (ci := 8) (q0 := 0) rfl rfl, fun U hU hW => ⟨rfl, by rw [hU], by rw [hU]; exact hPc, kE_warm hW hE, hDc.weaken (fun _ _ _ _ => trivial)⟩⟩ rfl rfl hl.1 rfl (lv_room (Nat.le_of_ble_eq_true rfl)) dX8_append_2 ⟨Nat.le_of_ble_eq_true rfl, Nat.le_of_ble_eq_true rfl⟩) hS (fun q _ h => hFc q h) hFc (fun r1 u t H1 locs ht hvm w2 hB hz1 hk1 hS => ?_)
  obtain ⟨hP1, hD1⟩ := hB
  rw [ht] at hP1
  try dsimp only at w2
  obtain ⟨hP, hD⟩ := va_join (wr := [(xa2, .inl (kB, 700, .inl f1))]) (w1 := [(xa1, .inr (8, [.ref xa2, .int 16]))]) hP hD [0] [1] rfl rfl (by decide) (by decide) hk1 hFc hP1 hD1
  generalize H1 = H at hP hS ⊢
  have hP : va_P (dC, dI) vwCl [(xa2, .inl (kB, 700, .inl f1)), (xa1, .inr (8, [.ref xa2, .int 16]))] H := hP
  have hD : va_D A [(xa2, .inl (kB, 700, .inl f1)), (xa1, .inr (8, [.ref xa2, .int 16]))] := hD
  refine W.widen (k := 0) (n := 0) (Nat.le_of_ble_eq_true rfl) (Nat.le_of_ble_eq_true rfl) ?_
  subst w2
  refine lv_if_ne (tgt := 9) hx hb dX8_append_5 (by decide) (fun _ => ?_) (fun c9 => absurd c9 (by decide))
  refine lv_bipush (v := 24) hx hb dX8_append_9 (by decide) ?_
  refine lv_istore_n (lv' := [(2, .int 24), (0, .ref xa1), (1, .int p0)]) hx hb dX8_append_11 rfl hl (by decide) rfl (fun ls hl => ?_)
  refine lv_iload_n hx hb dX8_append_12 rfl (lv_at hl 0 rfl) ?_
  refine lv_if_lt (tgt := 45) hx hb dX8_append_13 (by decide) (fun c9 => absurd c9 (by decide)) (fun _ => ?_)
  refine lv_aload_n hx hb dX8_append_16 rfl (lv_at hl 1 rfl) ?_
  refine va_get (D := (dC, dI)) (ci := 8) (v := .ref xa2) (C := RX8) (T := TX8) (N := 2) hx hb hts hin8 hown hK hP 1 rfl rfl 0 (by decide) (hts (.fieldLink RX8 9 "PathProber$Tape" "bytes" "[B") (List.mem_of_getElem? (i := 1) (by decide +kernel))) (fun _ h9 => h9) rfl dX8_append_17 ?_
  refine lv_aload_n hx hb dX8_append_20 rfl (lv_at hl 1 rfl) ?_
  refine va_get (D := (dC, dI)) (ci := 8) (v := .int 16) (C := RX8) (T := TX8) (N := 2) hx hb hts hin8 hown hK hP 1 rfl rfl 1 (by decide) (hts (.fieldLink RX8 15 "PathProber$Tape" "length" "I") (List.mem_of_getElem? (i := 2) (by decide +kernel))) (fun _ h9 => h9) rfl dX8_append_21 ?_
  refine lv_iload_n hx hb dX8_append_24 rfl (lv_at hl 2 rfl) ?_
  refine lv_iload_n hx hb dX8_append_25 rfl (lv_at hl 0 rfl) ?_
  refine lv_ishr hx hb dX8_append_26 ?_
  refine lv_i2b (v := (p0 >>> ((24 : Int32) &&& 31)).toInt8.toInt32) hx hb dX8_append_27 rfl ?_
  refine va_bast hx hb hK hP hD hS 0 0 rfl rfl (vp_in_nI (n := 16) (by decide) (by decide)) dX8_append_28 (fun H locs hP hD hS => ?_)
  have hP : va_P (dC, dI) vwCl [(xa2, .inl (kB, 700, .inl (upd f1 16 (vp_nar .byte ((p0 >>> ((24 : Int32) &&& 31)).toInt8.toInt32))))), (xa1, .inr (8, [.ref xa2, .int 16]))] H := hP
  have hD : va_D A [(xa2, .inl (kB, 700, .inl (upd f1 16 (vp_nar .byte ((p0 >>> ((24 : Int32) &&& 31)).toInt8.toInt32))))), (xa1, .inr (8, [.ref xa2, .int 16]))] := hD
  generalize (upd f1 16 (vp_nar .byte ((p0 >>> ((24 : Int32) &&& 31)).toInt8.toInt32))) = f3 at hP hD
  refine lv_aload_n hx hb dX8_append_29 rfl (lv_at hl 1 rfl) ?_
  refine lv_dup hx hb dX8_append_30 rfl ?_
  refine va_get (D := (dC, dI)) (ci := 8) (v := .int 16) (C := RX8) (T := TX8) (N := 2) hx hb hts hin8 hown hK hP 1 rfl rfl 1 (by decide) (hts (.fieldLink RX8 15 "PathProber$Tape" "length" "I") (List.mem_of_getElem? (i := 2) (by decide +kernel))) (fun _ h9 => h9) rfl dX8_append_31 ?_
  refine lv_iconst (v := 1) hx hb dX8_append_34 (by decide) ?_
  refine lv_iadd hx hb dX8_append_35 ?_
  refine lv_topi (fun z4 e5 => ?_)
  obtain rfl : z4 = (17 : Int32) := e5.trans (by decide)
  refine va_put (D := (dC, dI)) (ci := 8) (v := .int 17) (ty := .int) (C := RX8) (T := TX8) (N := 2) hx hb hts hin8 tyX8 tyX8_ok nmX8 hown hK hP hD hS 1 rfl rfl 1 (by decide) (hts (.fieldLink RX8 15 "PathProber$Tape" "length" "I") (List.mem_of_getElem? (i := 2) (by decide +kernel))) (fun _ h9 => h9) rfl (by decide +kernel) rfl rfl (Nat.le_of_ble_eq_true rfl) dX8_append_36 (fun H locs hP hD hS => ?_)
  have hP : va_P (dC, dI) vwCl [(xa2, .inl (kB, 700, .inl f3)), (xa1, .inr (8, [.ref xa2, .int 17]))] H := hP
  have hD : va_D A [(xa2, .inl (kB, 700, .inl f3)), (xa1, .inr (8, [.ref xa2, .int 17]))] := hD
  refine lv_iinc (v := 16) (lv' := [(2, .int 16), (0, .ref xa1), (1, .int p0)]) hx hb dX8_append_39 hl (k := 0) rfl (by decide) (by decide) rfl (fun ls hl => ?_)
  refine lv_goto (tgt := 12) hx hb dX8_append_42 (by decide) ?_
  refine lv_iload_n hx hb dX8_append_12 rfl (lv_at hl 0 rfl) ?_
  refine lv_if_lt (tgt := 45) hx hb dX8_append_13 (by decide) (fun c9 => absurd c9 (by decide)) (fun _ => ?_)
  refine lv_aload_n hx hb dX8_append_16 rfl (lv_at hl 1 rfl) ?_
  refine va_get (D := (dC, dI)) (ci := 8) (v := .ref xa2) (C := RX8) (T := TX8) (N := 2) hx hb hts hin8 hown hK hP 1 rfl rfl 0 (by decide) (hts (.fieldLink RX8 9 "PathProber$Tape" "bytes" "[B") (List.mem_of_getElem? (i := 1) (by decide +kernel))) (fun _ h9 => h9) rfl dX8_append_17 ?_
  refine lv_aload_n hx hb dX8_append_20 rfl (lv_at hl 1 rfl) ?_
  refine va_get (D := (dC, dI)) (ci := 8) (v := .int 17) (C := RX8) (T := TX8) (N := 2) hx hb hts hin8 hown hK hP 1 rfl rfl 1 (by decide) (hts (.fieldLink RX8 15 "PathProber$Tape" "length" "I") (List.mem_of_getElem? (i := 2) (by decide +kernel))) (fun _ h9 => h9) rfl dX8_append_21 ?_
  refine lv_iload_n hx hb dX8_append_24 rfl (lv_at hl 2 rfl) ?_
  refine lv_iload_n hx hb dX8_append_25 rfl (lv_at hl 0 rfl) ?_
  refine lv_ishr hx hb dX8_append_26 ?_
  refine lv_i2b (v := (p0 >>> ((16 : Int32) &&& 31)).toInt8.toInt32) hx hb dX8_append_27 rfl ?_
  refine va_bast hx hb hK hP hD hS 0 0 rfl rfl (vp_in_nI (n := 17) (by decide) (by decide)) dX8_append_28 (fun H locs hP hD hS => ?_)
  have hP : va_P (dC, dI) vwCl [(xa2, .inl (kB, 700, .inl (upd f3 17 (vp_nar .byte ((p0 >>> ((16 : Int32) &&& 31)).toInt8.toInt32))))), (xa1, .inr (8, [.ref xa2, .int 17]))] H := hP
  have hD : va_D A [(xa2, .inl (kB, 700, .inl (upd f3 17 (vp_nar .byte ((p0 >>> ((16 : Int32) &&& 31)).toInt8.toInt32))))), (xa1, .inr (8, [.ref xa2, .int 17]))] := hD
  generalize (upd f3 17 (vp_nar .byte ((p0 >>> ((16 : Int32) &&& 31)).toInt8.toInt32))) = f6 at hP hD
  refine lv_aload_n hx hb dX8_append_29 rfl (lv_at hl 1 rfl) ?_
  refine lv_dup hx hb dX8_append_30 rfl ?_
  refine va_get (D := (dC, dI)) (ci := 8) (v := .int 17) (C := RX8) (T := TX8) (N := 2) hx hb hts hin8 hown hK hP 1 rfl rfl 1 (by decide) (hts (.fieldLink RX8 15 "PathProber$Tape" "length" "I") (List.mem_of_getElem? (i := 2) (by decide +kernel))) (fun _ h9 => h9) rfl dX8_append_31 ?_
  refine lv_iconst (v := 1) hx hb dX8_append_34 (by decide) ?_
  refine lv_iadd hx hb dX8_append_35 ?_
  refine lv_topi (fun z7 e8 => ?_)
  obtain rfl : z7 = (18 : Int32) := e8.trans (by decide)
  refine va_put (D := (dC, dI)) (ci := 8) (v := .int 18) (ty := .int) (C := RX8) (T := TX8) (N := 2) hx hb hts hin8 tyX8 tyX8_ok nmX8 hown hK hP hD hS 1 rfl rfl 1 (by decide) (hts (.fieldLink RX8 15 "PathProber$Tape" "length" "I") (List.mem_of_getElem? (i := 2) (by decide +kernel))) (fun _ h9 => h9) rfl (by decide +kernel) rfl rfl (Nat.le_of_ble_eq_true rfl) dX8_append_36 (fun H locs hP hD hS => ?_)
  have hP : va_P (dC, dI) vwCl [(xa2, .inl (kB, 700, .inl f6)), (xa1, .inr (8, [.ref xa2, .int 18]))] H := hP
  have hD : va_D A [(xa2, .inl (kB, 700, .inl f6)), (xa1, .inr (8, [.ref xa2, .int 18]))] := hD
  refine lv_iinc (v := 8) (lv' := [(2, .int 8), (0, .ref xa1), (1, .int p0)]) hx hb dX8_append_39 hl (k := 0) rfl (by decide) (by decide) rfl (fun ls hl => ?_)
  refine lv_goto (tgt := 12) hx hb dX8_append_42 (by decide) ?_
  refine lv_iload_n hx hb dX8_append_12 rfl (lv_at hl 0 rfl) ?_
  refine lv_if_lt (tgt := 45) hx hb dX8_append_13 (by decide) (fun c9 => absurd c9 (by decide)) (fun _ => ?_)
  refine lv_aload_n hx hb dX8_append_16 rfl (lv_at hl 1 rfl) ?_
  refine va_get (D := (dC, dI)) (ci := 8) (v := .ref xa2) (C := RX8) (T := TX8) (N := 2) hx hb hts hin8 hown hK hP 1 rfl rfl 0 (by decide) (hts (.fieldLink RX8 9 "PathProber$Tape" "bytes" "[B") (List.mem_of_getElem? (i := 1) (by decide +kernel))) (fun _ h9 => h9) rfl dX8_append_17 ?_
  refine lv_aload_n hx hb dX8_append_20 rfl (lv_at hl 1 rfl) ?_
  refine va_get (D := (dC, dI)) (ci := 8) (v := .int 18) (C := RX8) (T := TX8) (N := 2) hx hb hts hin8 hown hK hP 1 rfl rfl 1 (by decide) (hts (.fieldLink RX8 15 "PathProber$Tape" "length" "I") (List.mem_of_getElem? (i := 2) (by decide +kernel))) (fun _ h9 => h9) rfl dX8_append_21 ?_
  refine lv_iload_n hx hb dX8_append_24 rfl (lv_at hl 2 rfl) ?_
  refine lv_iload_n hx hb dX8_append_25 rfl (lv_at hl 0 rfl) ?_
  refine lv_ishr hx hb dX8_append_26 ?_
  refine lv_i2b (v := (p0 >>> ((8 : Int32) &&& 31)).toInt8.toInt32) hx hb dX8_append_27 rfl ?_
  refine va_bast hx hb hK hP hD hS 0 0 rfl rfl (vp_in_nI (n := 18) (by decide) (by decide)) dX8_append_28 (fun H locs hP hD hS => ?_)
  have hP : va_P (dC, dI) vwCl [(xa2, .inl (kB, 700, .inl (upd f6 18 (vp_nar .byte ((p0 >>> ((8 : Int32) &&& 31)).toInt8.toInt32))))), (xa1, .inr (8, [.ref xa2, .int 18]))] H := hP
  have hD : va_D A [(xa2, .inl (kB, 700, .inl (upd f6 18 (vp_nar .byte ((p0 >>> ((8 : Int32) &&& 31)).toInt8.toInt32))))), (xa1, .inr (8, [.ref xa2, .int 18]))] := hD
  generalize (upd f6 18 (vp_nar .byte ((p0 >>> ((8 : Int32) &&& 31)).toInt8.toInt32))) = f9 at hP hD
  refine lv_aload_n hx hb dX8_append_29 rfl (lv_at hl 1 rfl) ?_
  refine lv_dup hx hb dX8_append_30 rfl ?_
  refine va_get (D := (dC, dI)) (ci := 8) (v := .int 18) (C := RX8) (T := TX8) (N := 2) hx hb hts hin8 hown hK hP 1 rfl rfl 1 (by decide) (hts (.fieldLink RX8 15 "PathProber$Tape" "length" "I") (List.mem_of_getElem? (i := 2) (by decide +kernel))) (fun _ h9 => h9) rfl dX8_append_31 ?_
  refine lv_iconst (v := 1) hx hb dX8_append_34 (by decide) ?_
  refine lv_iadd hx hb dX8_append_35 ?_
  refine lv_topi (fun z10 e11 => ?_)
  obtain rfl : z10 = (19 : Int32) := e11.trans (by decide)
  refine va_put (D := (dC, dI)) (ci := 8) (v := .int 19) (ty := .int) (C := RX8) (T := TX8) (N := 2) hx hb hts hin8 tyX8 tyX8_ok nmX8 hown hK hP hD hS 1 rfl rfl 1 (by decide) (hts (.fieldLink RX8 15 "PathProber$Tape" "length" "I") (List.mem_of_getElem? (i := 2) (by decide +kernel))) (fun _ h9 => h9) rfl (by decide +kernel) rfl rfl (Nat.le_of_ble_eq_true rfl) dX8_append_36 (fun H locs hP hD hS => ?_)
  have hP : va_P (dC, dI) vwCl [(xa2, .inl (kB, 700, .inl f9)), (xa1, .inr (8, [.ref xa2, .int 19]))] H := hP
  have hD : va_D A [(xa2, .inl (kB, 700, .inl f9)), (xa1, .inr (8, [.ref xa2, .int 19]))] := hD
  refine lv_iinc (v := 0) (lv' := [(2, .int 0), (0, .ref xa1), (1, .int p0)]) hx hb dX8_append_39 hl (k := 0) rfl (by decide) (by decide) rfl (fun ls hl => ?_)
  refine lv_goto (tgt := 12) hx hb dX8_append_42 (by decide) ?_
  refine lv_iload_n hx hb dX8_append_12 rfl (lv_at hl 0 rfl) ?_
  refine lv_if_lt (tgt := 45) hx hb dX8_append_13 (by decide) (fun c9 => absurd c9 (by decide)) (fun _ => ?_)
  refine lv_aload_n hx hb dX8_append_16 rfl (lv_at hl 1 rfl) ?_
  refine va_get (D := (dC, dI)) (ci := 8) (v := .ref xa2) (C := RX8) (T := TX8) (N := 2) hx hb hts hin8 hown hK hP 1 rfl rfl 0 (by decide) (hts (.fieldLink RX8 9 "PathProber$Tape" "bytes" "[B") (List.mem_of_getElem? (i := 1) (by decide +kernel))) (fun _ h9 => h9) rfl dX8_append_17 ?_
  refine lv_aload_n hx hb dX8_append_20 rfl (lv_at hl 1 rfl) ?_
  refine va_get (D := (dC, dI)) (ci := 8) (v := .int 19) (C := RX8) (T := TX8) (N := 2) hx hb hts hin8 hown hK hP 1 rfl rfl 1 (by decide) (hts (.fieldLink RX8 15 "PathProber$Tape" "length" "I") (List.mem_of_getElem? (i := 2) (by decide +kernel))) (fun _ h9 => h9) rfl dX8_append_21 ?_
  refine lv_iload_n hx hb dX8_append_24 rfl (lv_at hl 2 rfl) ?_
  refine lv_iload_n hx hb dX8_append_25 rfl (lv_at hl 0 rfl) ?_
  refine lv_ishr hx hb dX8_append_26 ?_
  refine lv_i2b (v := (p0 >>> ((0 : Int32) &&& 31)).toInt8.toInt32) hx hb dX8_append_27 rfl ?_
  refine va_bast hx hb hK hP hD hS 0 0 rfl rfl (vp_in_nI (n := 19) (by decide) (by decide)) dX8_append_28 (fun H locs hP hD hS => ?_)
  have hP : va_P (dC, dI) vwCl [(xa2, .inl (kB, 700, .inl (upd f9 19 (vp_nar .byte ((p0 >>> ((0 : Int32) &&& 31)).toInt8.toInt32))))), (xa1, .inr (8, [.ref xa2, .int 19]))] H := hP
  have hD : va_D A [(xa2, .inl (kB, 700, .inl (upd f9 19 (vp_nar .byte ((p0 >>> ((0 : Int32) &&& 31)).toInt8.toInt32))))), (xa1, .inr (8, [.ref xa2, .int 19]))] := hD
  generalize (upd f9 19 (vp_nar .byte ((p0 >>> ((0 : Int32) &&& 31)).toInt8.toInt32))) = f12 at hP hD
  refine lv_aload_n hx hb dX8_append_29 rfl (lv_at hl 1 rfl) ?_
  refine lv_dup hx hb dX8_append_30 rfl ?_
  refine va_get (D := (dC, dI)) (ci := 8) (v := .int 19) (C := RX8) (T := TX8) (N := 2) hx hb hts hin8 hown hK hP 1 rfl rfl 1 (by decide) (hts (.fieldLink RX8 15 "PathProber$Tape" "length" "I") (List.mem_of_getElem? (i := 2) (by decide +kernel))) (fun _ h9 => h9) rfl dX8_append_31 ?_
  refine lv_iconst (v := 1) hx hb dX8_append_34 (by decide) ?_
  refine lv_iadd hx hb dX8_append_35 ?_
  refine lv_topi (fun z13 e14 => ?_)
  obtain rfl : z13 = (20 : Int32) := e14.trans (by decide)
  refine va_put (D := (dC, dI)) (ci := 8) (v := .int 20) (ty := .int) (C := RX8) (T := TX8) (N := 2) hx hb hts hin8 tyX8 tyX8_ok nmX8 hown hK hP hD hS 1 rfl rfl 1 (by decide) (hts (.fieldLink RX8 15 "PathProber$Tape" "length" "I") (List.mem_of_getElem? (i := 2) (by decide +kernel))) (fun _ h9 => h9) rfl (by decide +kernel) rfl rfl (Nat.le_of_ble_eq_true rfl) dX8_append_36 (fun H locs hP hD hS => ?_)
  have hP : va_P (dC, dI) vwCl [(xa2, .inl (kB, 700, .inl f12)), (xa1, .inr (8, [.ref xa2, .int 20]))] H := hP
  have hD : va_D A [(xa2, .inl (kB, 700, .inl f12)), (xa1, .inr (8, [.ref xa2, .int 20]))] := hD
  refine lv_iinc (v := (-8)) (lv' := [(2, .int (-8)), (0, .ref xa1), (1, .int p0)]) hx hb dX8_append_39 hl (k := 0) rfl (by decide) (by decide) rfl (fun ls hl => ?_)
  refine lv_goto (tgt := 12) hx hb dX8_append_42 (by decide) ?_
  refine lv_iload_n hx hb dX8_append_12 rfl (lv_at hl 0 rfl) ?_
  refine lv_if_lt (tgt := 45) hx hb dX8_append_13 (by decide) (fun _ => ?_) (fun c9 => absurd (by decide) c9)
  have hP9 := hP.sub (ws' := [(xa1, .inr (8, [.ref xa2, .int 20])), (xa2, .inl (kB, 700, .inl f12))]) [1, 0] rfl
  have hD9 := hD.sub (ws' := [(xa1, .inr (8, [.ref xa2, .int 20])), (xa2, .inl (kB, 700, .inl f12))]) [1, 0] (by decide) rfl
  exact W.vret hx hb hr (fun t ht hW => ⟨⟨(), rfl, trivial, f12, by rw [ht]; exact hP9, hD9⟩, hS.F ht⟩) hS.2.2 dX8_append_45
def rm_k10_feed : Room := { frames := 2, cells := 0, slots := 0, locals := 43 }
set_option maxHeartbeats 4000000 in
set_option maxRecDepth 100000 in
theorem k10_feed (l : Launch) (dC : Nat → ClassId) (dI : Nat → Nat → Nat) (kB kI kJ kZ kC kS : ClassId) (sz : Nat) (h0 : Nat) (xa1 : Nat) (xa3 : Nat) (xa15 : Nat) (xa27 : Nat) (xa28 : Nat) (xa33 : Nat) (xa38 : Nat) (xa41 : Nat) (xa45 : Nat) (xa46 : Nat) (xa47 : Nat) (xa52 : Nat) (xa54 : Nat) (xa55 : Nat) (xa60 : Nat) (xa62 : Nat) (xa67 : Nat) (xa2 : Nat) (p0 : Int32) (p1 : Int32) (p2 : Int32) (p3 : Int32) (p4 : Int32) : Met l yX10_feed wsX10_feed rm_k10_feed (va_Pc [.ref h0, .int p0, .int p1, .int p2, .int p3, .int p4] (fun U => U.heap.size = sz ∧ va_P (dC, dI) vwCl [(h0, .inr (10, [.ref xa1, .ref xa3, .ref xa15, .ref xa27, .ref xa28, .ref xa33, .ref xa38, .ref xa41, .ref xa45, .ref xa46, .ref xa47, .ref xa52, .ref xa54, .int 0, .ref xa55, .ref xa60, .ref xa62, .ref xa67, .int (-1)])), (xa1, .inr (8, [.ref xa2, .int 0])), (xa2, .inl (kB, 700, .inl (fun _ => 0)))] U.heap ∧ kE dC dI kB kI kJ kZ kC kS U ∧ va_D (fun _ => True) [(h0, .inr (10, [.ref xa1, .ref xa3, .ref xa15, .ref xa27, .ref xa28, .ref xa33, .ref xa38, .ref xa41, .ref xa45, .ref xa46, .ref xa47, .ref xa52, .ref xa54, .int 0, .ref xa55, .ref xa60, .ref xa62, .ref xa67, .int (-1)])), (xa1, .inr (8, [.ref xa2, .int 0])), (xa2, .inl (kB, 700, .inl (fun _ => 0)))])) (va_Qi (fun (r : Int32) (_ : Unit) => r = 20) (fun _ t => va_P (dC, dI) vwCl [] t.heap ∧ va_D (va_A [(h0, .inr (10, [.ref xa1, .ref xa3, .ref xa15, .ref xa27, .ref xa28, .ref xa33, .ref xa38, .ref xa41, .ref xa45, .ref xa46, .ref xa47, .ref xa52, .ref xa54, .int 0, .ref xa55, .ref xa60, .ref xa62, .ref xa67, .int (-1)])), (xa1, .inr (8, [.ref xa2, .int 0])), (xa2, .inl (kB, 700, .inl (fun _ => 0)))] sz) []) (va_A [(h0, .inr (10, [.ref xa1, .ref xa3, .ref xa15, .ref xa27, .ref xa28, .ref xa33, .ref xa38, .ref xa41, .ref xa45, .ref xa46, .ref xa47, .ref xa52, .ref xa54, .int 0, .ref xa55, .ref xa60, .ref xa62, .ref xa67, .int (-1)])), (xa1, .inr (8, [.ref xa2, .int 0])), (xa2, .inl (kB, 700, .inl (fun _ => 0)))] sz)) 0 0 (va_A [(h0, .inr (10, [.ref xa1, .ref xa3, .ref xa15, .ref xa27, .ref xa28, .ref xa33, .ref xa38, .ref xa41, .ref xa45, .ref xa46, .ref xa47, .ref xa52, .ref xa54, .int 0, .ref xa55, .ref xa60, .ref xa62, .ref xa67, .int (-1)])), (xa1, .inr (8, [.ref xa2, .int 0])), (xa2, .inl (kB, 700, .inl (fun _ => 0)))] sz) := by
  refine Met.ofW (cc := cX10_feed) (maxL := 6) (ret := (some .int)) (by decide) rfl ?_
  intro p e s m args0 below meth c s₁ B hml hv
  obtain ⟨hargs, hsz, hP, hE, hD0⟩ := hv
  have hx := B.exec
  have hb := B.bytes
  have hr := B.returns
  have hts := atoms_spec (ws := wsX10_feed) B.pre
  have hown : s.vm.findClass RX10 = some m.cls := findClass_of_methodNamed B.named
  have hlocks := B.notSynchronized
  have hK := hE.1
  have hin10 : ∀ w ∈ wsX100, w ∈ wsX10_feed := fun _ h9 => List.mem_cons_of_mem _ (List.mem_append_left _ (List.mem_append_right _ h9))
  have hin8 : ∀ w ∈ wsX80, w ∈ wsX10_feed := fun _ h9 => List.mem_cons_of_mem _ (List.mem_append_right _ h9)
  subst hsz
  have hD := hD0.self (sz := s.heap.size)
  generalize hAe : va_A [(h0, .inr (10, [.ref xa1, .ref xa3, .ref xa15, .ref xa27, .ref xa28, .ref xa33, .ref xa38, .ref xa41, .ref xa45, .ref xa46, .ref xa47, .ref xa52, .ref xa54, .int 0, .ref xa55, .ref xa60, .ref xa62, .ref xa67, .int (-1)])), (xa1, .inr (8, [.ref xa2, .int 0])), (xa2, .inl (kB, 700, .inl (fun _ => 0)))] s.heap.size = A at hD ⊢
  have hA : ∀ q : Nat, s.heap.size ≤ q → A q := fun q h => by rw [← hAe]; exact Or.inr h
  have hS : va_S A s.heap s.heap [] := va_S.rf
  have hP : va_P (dC, dI) vwCl [(h0, .inr (10, [.ref xa1, .ref xa3, .ref xa15, .ref xa27, .ref xa28, .ref xa33, .ref xa38, .ref xa41, .ref xa45, .ref xa46, .ref xa47, .ref xa52, .ref xa54, .int 0, .ref xa55, .ref xa60, .ref xa62, .ref xa67, .int (-1)])), (xa1, .inr (8, [.ref xa2, .int 0])), (xa2, .inl (kB, 700, .inl (fun _ => 0)))] s.heap := hP
  have hl := lv_entry ([.ref h0, .int p0, .int p1, .int p2, .int p3, .int p4]) (n := 6) (Nat.le_of_ble_eq_true rfl)
  have hla : entryFrame m args0 6 = entryFrame m ([.ref h0, .int p0, .int p1, .int p2, .int p3, .int p4] : List Value).toArray 6 := by rw [hargs]
  rw [hla, lg_entry_eq]
  generalize (lg_sl ([.ref h0, .int p0, .int p1, .int p2, .int p3, .int p4]) ++ List.replicate (6 - (lg_sl ([.ref h0, .int p0, .int p1, .int p2, .int p3, .int p4])).length) Slot.unset).toArray = ls at hl ⊢
  have hl : lv_has ls 6 [(0, .ref h0), (1, .int p0), (2, .int p1), (3, .int p2), (4, .int p3), (5, .int p4)] := hl
  refine lv_aload_n hx hb dX10_feed_0 rfl (lv_at hl 0 rfl) ?_
  refine va_get (D := (dC, dI)) (ci := 10) (v := .ref xa1) (C := RX10) (T := TX10) (N := 19) hx hb hts hin10 hown hK hP 0 rfl rfl 0 (by decide) (hts (.fieldLink RX10 12 "PathProber" "tape" "LPathProber$Tape;") (List.mem_of_getElem? (i := 1) (by decide +kernel))) (fun _ h9 => h9) rfl dX10_feed_1 ?_
  refine lv_bipush (v := 20) hx hb dX10_feed_4 (by decide) ?_
  have hPc := hP.sub (ws' := [(xa1, .inr (8, [.ref xa2, .int 0]))]) [1] rfl
  have hDc := hD.sub (ws' := [(xa1, .inr (8, [.ref xa2, .int 0]))]) [1] (by decide) rfl
  have hFc := va_free (wc := [(xa1, .inr (8, [.ref xa2, .int 0]))]) hD hS hA [1] rfl
  refine va_calli (va_runV (As := [.int 20]) (rest := []) ⟨hx, hb, hml, hown, hts⟩ (k8_room_0_20 l dC dI kB kI kJ kZ kC kS s.heap.size xa1 xa2) (cwV 1 hts gX10_feed_X8_hasRoomFor rfl rfl rfl (by decide +kernel) ⟨Nat.le_of_ble_eq_true rfl, Nat.le_of_ble_eq_true rfl⟩) ⟨fun a U g mk q => by obtain ⟨q0, q1, qP, qE, qD⟩ := q; exact ⟨q0, q1, qP, kE_call qE, qD⟩, va_recv hK hP (ci := 8) (q0 := 1) rfl rfl, fun U hU hW => ⟨rfl, by rw [hU], by rw [hU]; exact hPc, kE_warm hW hE, hDc.weaken (fun _ _ _ _ => trivial)⟩⟩ rfl rfl hl.1 rfl (lv_room (Nat.le_of_ble_eq_true rfl)) dX10_feed_6 ⟨Nat.le_of_ble_eq_true rfl, Nat.le_of_ble_eq_true rfl⟩) hS (fun q _ h => hFc q h) hFc (fun r1 u t H1 locs ht hvm w2 hB hz1 hk1 hS => ?_)
  obtain ⟨hP1, hD1⟩ := hB
  rw [ht] at hP1
  try dsimp only at w2
  obtain ⟨hP, hD⟩ := va_join (wr := [(h0, .inr (10, [.ref xa1, .ref xa3, .ref xa15, .ref xa27, .ref xa28, .ref xa33, .ref xa38, .ref xa41, .ref xa45, .ref xa46, .ref xa47, .ref xa52, .ref xa54, .int 0, .ref xa55, .ref xa60, .ref xa62, .ref xa67, .int (-1)])), (xa2, .inl (kB, 700, .inl (fun _ => 0)))]) (w1 := [(xa1, .inr (8, [.ref xa2, .int 0]))]) hP hD [1] [0, 2] rfl rfl (by decide) (by decide) hk1 hFc hP1 hD1
  generalize H1 = H at hP hS ⊢
  have hP : va_P (dC, dI) vwCl [(h0, .inr (10, [.ref xa1, .ref xa3, .ref xa15, .ref xa27, .ref xa28, .ref xa33, .ref xa38, .ref xa41, .ref xa45, .ref xa46, .ref xa47, .ref xa52, .ref xa54, .int 0, .ref xa55, .ref xa60, .ref xa62, .ref xa67, .int (-1)])), (xa2, .inl (kB, 700, .inl (fun _ => 0))), (xa1, .inr (8, [.ref xa2, .int 0]))] H := hP
  have hD : va_D A [(h0, .inr (10, [.ref xa1, .ref xa3, .ref xa15, .ref xa27, .ref xa28, .ref xa33, .ref xa38, .ref xa41, .ref xa45, .ref xa46, .ref xa47, .ref xa52, .ref xa54, .int 0, .ref xa55, .ref xa60, .ref xa62, .ref xa67, .int (-1)])), (xa2, .inl (kB, 700, .inl (fun _ => 0))), (xa1, .inr (8, [.ref xa2, .int 0]))] := hD
  refine W.widen (k := 0) (n := 0) (Nat.le_of_ble_eq_true rfl) (Nat.le_of_ble_eq_true rfl) ?_
  subst w2
  refine lv_if_ne (tgt := 14) hx hb dX10_feed_9 (by decide) (fun _ => ?_) (fun c9 => absurd c9 (by decide))
  refine lv_aload_n hx hb dX10_feed_14 rfl (lv_at hl 0 rfl) ?_
  refine va_get (D := (dC, dI)) (ci := 10) (v := .ref xa1) (C := RX10) (T := TX10) (N := 19) hx hb hts hin10 hown hK hP 0 rfl rfl 0 (by decide) (hts (.fieldLink RX10 12 "PathProber" "tape" "LPathProber$Tape;") (List.mem_of_getElem? (i := 1) (by decide +kernel))) (fun _ h9 => h9) rfl dX10_feed_15 ?_
  refine lv_iload_n hx hb dX10_feed_18 rfl (lv_at hl 1 rfl) ?_
  have hPc := hP.sub (ws' := [(xa1, .inr (8, [.ref xa2, .int 0])), (xa2, .inl (kB, 700, .inl (fun _ => 0)))]) [2, 1] rfl
  have hDc := hD.sub (ws' := [(xa1, .inr (8, [.ref xa2, .int 0])), (xa2, .inl (kB, 700, .inl (fun _ => 0)))]) [2, 1] (by decide) rfl
  have hFc := va_free (wc := [(xa1, .inr (8, [.ref xa2, .int 0])), (xa2, .inl (kB, 700, .inl (fun _ => 0)))]) hD hS hA [2, 1] rfl
  refine va_callv (va_runV (As := [.int p0]) (rest := []) ⟨hx, hb, hml, hown, hts⟩ (k8_append_0 l dC dI kB kI kJ kZ kC kS H.size xa1 xa2 p0 (fun _ => 0)) (cwV 1 hts gX10_feed_X8_append rfl rfl rfl (by decide +kernel) ⟨Nat.le_of_ble_eq_true rfl, Nat.le_of_ble_eq_true rfl⟩) ⟨fun a U g mk q => by obtain ⟨q0, q1, qP, qE, qD⟩ := q; exact ⟨q0, q1, qP, kE_call qE, qD⟩, va_recv hK hP (ci := 8) (q0 := 2) rfl rfl, fun U hU hW => ⟨rfl, by rw [hU], by rw [hU]; exact hPc, kE_warm hW hE, hDc.weaken (fun _ _ _ _ => trivial)⟩⟩ rfl rfl hl.1 rfl (lv_room (Nat.le_of_ble_eq_true rfl)) dX10_feed_19 ⟨Nat.le_of_ble_eq_true rfl, Nat.le_of_ble_eq_true rfl⟩) hS (fun q _ h => hFc q h) hFc (fun u t H1 locs ht hvm w4 hB hz1 hk1 hS => ?_)
  obtain ⟨g_5, hP1, hD1⟩ := hB
  rw [ht] at hP1
  try dsimp only at w4
  obtain ⟨hP, hD⟩ := va_join (wr := [(h0, .inr (10, [.ref xa1, .ref xa3, .ref xa15, .ref xa27, .ref xa28, .ref xa33, .ref xa38, .ref xa41, .ref xa45, .ref xa46, .ref xa47, .ref xa52, .ref xa54, .int 0, .ref xa55, .ref xa60, .ref xa62, .ref xa67, .int (-1)]))]) (w1 := [(xa1, .inr (8, [.ref xa2, .int 4])), (xa2, .inl (kB, 700, .inl g_5))]) hP hD [2, 1] [0] rfl rfl (by decide) (by decide) hk1 hFc hP1 hD1
  generalize H1 = H at hP hS ⊢
  have hP : va_P (dC, dI) vwCl [(h0, .inr (10, [.ref xa1, .ref xa3, .ref xa15, .ref xa27, .ref xa28, .ref xa33, .ref xa38, .ref xa41, .ref xa45, .ref xa46, .ref xa47, .ref xa52, .ref xa54, .int 0, .ref xa55, .ref xa60, .ref xa62, .ref xa67, .int (-1)])), (xa1, .inr (8, [.ref xa2, .int 4])), (xa2, .inl (kB, 700, .inl g_5))] H := hP
  have hD : va_D A [(h0, .inr (10, [.ref xa1, .ref xa3, .ref xa15, .ref xa27, .ref xa28, .ref xa33, .ref xa38, .ref xa41, .ref xa45, .ref xa46, .ref xa47, .ref xa52, .ref xa54, .int 0, .ref xa55, .ref xa60, .ref xa62, .ref xa67, .int (-1)])), (xa1, .inr (8, [.ref xa2, .int 4])), (xa2, .inl (kB, 700, .inl g_5))] := hD
  refine W.widen (k := 0) (n := 0) (Nat.le_of_ble_eq_true rfl) (Nat.le_of_ble_eq_true rfl) ?_
  refine lv_aload_n hx hb dX10_feed_22 rfl (lv_at hl 0 rfl) ?_
  refine va_get (D := (dC, dI)) (ci := 10) (v := .ref xa1) (C := RX10) (T := TX10) (N := 19) hx hb hts hin10 hown hK hP 0 rfl rfl 0 (by decide) (hts (.fieldLink RX10 12 "PathProber" "tape" "LPathProber$Tape;") (List.mem_of_getElem? (i := 1) (by decide +kernel))) (fun _ h9 => h9) rfl dX10_feed_23 ?_
  refine lv_iload_n hx hb dX10_feed_26 rfl (lv_at hl 2 rfl) ?_
  have hPc := hP.sub (ws' := [(xa1, .inr (8, [.ref xa2, .int 4])), (xa2, .inl (kB, 700, .inl g_5))]) [1, 2] rfl
  have hDc := hD.sub (ws' := [(xa1, .inr (8, [.ref xa2, .int 4])), (xa2, .inl (kB, 700, .inl g_5))]) [1, 2] (by decide) rfl
  have hFc := va_free (wc := [(xa1, .inr (8, [.ref xa2, .int 4])), (xa2, .inl (kB, 700, .inl g_5))]) hD hS hA [1, 2] rfl
  refine va_callv (va_runV (As := [.int p1]) (rest := []) ⟨hx, hb, hml, hown, hts⟩ (k8_append_4 l dC dI kB kI kJ kZ kC kS H.size xa1 xa2 p1 g_5) (cwV 1 hts gX10_feed_X8_append rfl rfl rfl (by decide +kernel) ⟨Nat.le_of_ble_eq_true rfl, Nat.le_of_ble_eq_true rfl⟩) ⟨fun a U g mk q => by obtain ⟨q0, q1, qP, qE, qD⟩ := q; exact ⟨q0, q1, qP, kE_call qE, qD⟩, va_recv hK hP (ci := 8) (q0 := 1) rfl rfl, fun U hU hW => ⟨rfl, by rw [hU], by rw [hU]; exact hPc, kE_warm hW hE, hDc.weaken (fun _ _ _ _ => trivial)⟩⟩ rfl rfl hl.1 rfl (lv_room (Nat.le_of_ble_eq_true rfl)) dX10_feed_27 ⟨Nat.le_of_ble_eq_true rfl, Nat.le_of_ble_eq_true rfl⟩) hS (fun q _ h => hFc q h) hFc (fun u t H1 locs ht hvm w7 hB hz1 hk1 hS => ?_)
  obtain ⟨g_8, hP1, hD1⟩ := hB
  rw [ht] at hP1
  try dsimp only at w7
  obtain ⟨hP, hD⟩ := va_join (wr := [(h0, .inr (10, [.ref xa1, .ref xa3, .ref xa15, .ref xa27, .ref xa28, .ref xa33, .ref xa38, .ref xa41, .ref xa45, .ref xa46, .ref xa47, .ref xa52, .ref xa54, .int 0, .ref xa55, .ref xa60, .ref xa62, .ref xa67, .int (-1)]))]) (w1 := [(xa1, .inr (8, [.ref xa2, .int 8])), (xa2, .inl (kB, 700, .inl g_8))]) hP hD [1, 2] [0] rfl rfl (by decide) (by decide) hk1 hFc hP1 hD1
  generalize H1 = H at hP hS ⊢
  have hP : va_P (dC, dI) vwCl [(h0, .inr (10, [.ref xa1, .ref xa3, .ref xa15, .ref xa27, .ref xa28, .ref xa33, .ref xa38, .ref xa41, .ref xa45, .ref xa46, .ref xa47, .ref xa52, .ref xa54, .int 0, .ref xa55, .ref xa60, .ref xa62, .ref xa67, .int (-1)])), (xa1, .inr (8, [.ref xa2, .int 8])), (xa2, .inl (kB, 700, .inl g_8))] H := hP
  have hD : va_D A [(h0, .inr (10, [.ref xa1, .ref xa3, .ref xa15, .ref xa27, .ref xa28, .ref xa33, .ref xa38, .ref xa41, .ref xa45, .ref xa46, .ref xa47, .ref xa52, .ref xa54, .int 0, .ref xa55, .ref xa60, .ref xa62, .ref xa67, .int (-1)])), (xa1, .inr (8, [.ref xa2, .int 8])), (xa2, .inl (kB, 700, .inl g_8))] := hD
  refine W.widen (k := 0) (n := 0) (Nat.le_of_ble_eq_true rfl) (Nat.le_of_ble_eq_true rfl) ?_
  refine lv_aload_n hx hb dX10_feed_30 rfl (lv_at hl 0 rfl) ?_
  refine va_get (D := (dC, dI)) (ci := 10) (v := .ref xa1) (C := RX10) (T := TX10) (N := 19) hx hb hts hin10 hown hK hP 0 rfl rfl 0 (by decide) (hts (.fieldLink RX10 12 "PathProber" "tape" "LPathProber$Tape;") (List.mem_of_getElem? (i := 1) (by decide +kernel))) (fun _ h9 => h9) rfl dX10_feed_31 ?_
  refine lv_iload_n hx hb dX10_feed_34 rfl (lv_at hl 3 rfl) ?_
  have hPc := hP.sub (ws' := [(xa1, .inr (8, [.ref xa2, .int 8])), (xa2, .inl (kB, 700, .inl g_8))]) [1, 2] rfl
  have hDc := hD.sub (ws' := [(xa1, .inr (8, [.ref xa2, .int 8])), (xa2, .inl (kB, 700, .inl g_8))]) [1, 2] (by decide) rfl
  have hFc := va_free (wc := [(xa1, .inr (8, [.ref xa2, .int 8])), (xa2, .inl (kB, 700, .inl g_8))]) hD hS hA [1, 2] rfl
  refine va_callv (va_runV (As := [.int p2]) (rest := []) ⟨hx, hb, hml, hown, hts⟩ (k8_append_8 l dC dI kB kI kJ kZ kC kS H.size xa1 xa2 p2 g_8) (cwV 1 hts gX10_feed_X8_append rfl rfl rfl (by decide +kernel) ⟨Nat.le_of_ble_eq_true rfl, Nat.le_of_ble_eq_true rfl⟩) ⟨fun a U g mk q => by obtain ⟨q0, q1, qP, qE, qD⟩ := q; exact ⟨q0, q1, qP, kE_call qE, qD⟩, va_recv hK hP (ci := 8) (q0 := 1) rfl rfl, fun U hU hW => ⟨rfl, by rw [hU], by rw [hU]; exact hPc, kE_warm hW hE, hDc.weaken (fun _ _ _ _ => trivial)⟩⟩ rfl rfl hl.1 rfl (lv_room (Nat.le_of_ble_eq_true rfl)) dX10_feed_35 ⟨Nat.le_of_ble_eq_true rfl, Nat.le_of_ble_eq_true rfl⟩) hS (fun q _ h => hFc q h) hFc (fun u t H1 locs ht hvm w10 hB hz1 hk1 hS => ?_)
  obtain ⟨g_11, hP1, hD1⟩ := hB
  rw [ht] at hP1
  try dsimp only at w10
  obtain ⟨hP, hD⟩ := va_join (wr := [(h0, .inr (10, [.ref xa1, .ref xa3, .ref xa15, .ref xa27, .ref xa28, .ref xa33, .ref xa38, .ref xa41, .ref xa45, .ref xa46, .ref xa47, .ref xa52, .ref xa54, .int 0, .ref xa55, .ref xa60, .ref xa62, .ref xa67, .int (-1)]))]) (w1 := [(xa1, .inr (8, [.ref xa2, .int 12])), (xa2, .inl (kB, 700, .inl g_11))]) hP hD [1, 2] [0] rfl rfl (by decide) (by decide) hk1 hFc hP1 hD1
  generalize H1 = H at hP hS ⊢
  have hP : va_P (dC, dI) vwCl [(h0, .inr (10, [.ref xa1, .ref xa3, .ref xa15, .ref xa27, .ref xa28, .ref xa33, .ref xa38, .ref xa41, .ref xa45, .ref xa46, .ref xa47, .ref xa52, .ref xa54, .int 0, .ref xa55, .ref xa60, .ref xa62, .ref xa67, .int (-1)])), (xa1, .inr (8, [.ref xa2, .int 12])), (xa2, .inl (kB, 700, .inl g_11))] H := hP
  have hD : va_D A [(h0, .inr (10, [.ref xa1, .ref xa3, .ref xa15, .ref xa27, .ref xa28, .ref xa33, .ref xa38, .ref xa41, .ref xa45, .ref xa46, .ref xa47, .ref xa52, .ref xa54, .int 0, .ref xa55, .ref xa60, .ref xa62, .ref xa67, .int (-1)])), (xa1, .inr (8, [.ref xa2, .int 12])), (xa2, .inl (kB, 700, .inl g_11))] := hD
  refine W.widen (k := 0) (n := 0) (Nat.le_of_ble_eq_true rfl) (Nat.le_of_ble_eq_true rfl) ?_
  refine lv_aload_n hx hb dX10_feed_38 rfl (lv_at hl 0 rfl) ?_
  refine va_get (D := (dC, dI)) (ci := 10) (v := .ref xa1) (C := RX10) (T := TX10) (N := 19) hx hb hts hin10 hown hK hP 0 rfl rfl 0 (by decide) (hts (.fieldLink RX10 12 "PathProber" "tape" "LPathProber$Tape;") (List.mem_of_getElem? (i := 1) (by decide +kernel))) (fun _ h9 => h9) rfl dX10_feed_39 ?_
  refine lv_iload hx hb dX10_feed_42 (lv_at hl 4 rfl) ?_
  have hPc := hP.sub (ws' := [(xa1, .inr (8, [.ref xa2, .int 12])), (xa2, .inl (kB, 700, .inl g_11))]) [1, 2] rfl
  have hDc := hD.sub (ws' := [(xa1, .inr (8, [.ref xa2, .int 12])), (xa2, .inl (kB, 700, .inl g_11))]) [1, 2] (by decide) rfl
  have hFc := va_free (wc := [(xa1, .inr (8, [.ref xa2, .int 12])), (xa2, .inl (kB, 700, .inl g_11))]) hD hS hA [1, 2] rfl
  refine va_callv (va_runV (As := [.int p3]) (rest := []) ⟨hx, hb, hml, hown, hts⟩ (k8_append_12 l dC dI kB kI kJ kZ kC kS H.size xa1 xa2 p3 g_11) (cwV 1 hts gX10_feed_X8_append rfl rfl rfl (by decide +kernel) ⟨Nat.le_of_ble_eq_true rfl, Nat.le_of_ble_eq_true rfl⟩) ⟨fun a U g mk q => by obtain ⟨q0, q1, qP, qE, qD⟩ := q; exact ⟨q0, q1, qP, kE_call qE, qD⟩, va_recv hK hP (ci := 8) (q0 := 1) rfl rfl, fun U hU hW => ⟨rfl, by rw [hU], by rw [hU]; exact hPc, kE_warm hW hE, hDc.weaken (fun _ _ _ _ => trivial)⟩⟩ rfl rfl hl.1 rfl (lv_room (Nat.le_of_ble_eq_true rfl)) dX10_feed_44 ⟨Nat.le_of_ble_eq_true rfl, Nat.le_of_ble_eq_true rfl⟩) hS (fun q _ h => hFc q h) hFc (fun u t H1 locs ht hvm w13 hB hz1 hk1 hS => ?_)
  obtain ⟨g_14, hP1, hD1⟩ := hB
  rw [ht] at hP1
  try dsimp only at w13
  obtain ⟨hP, hD⟩ := va_join (wr := [(h0, .inr (10, [.ref xa1, .ref xa3, .ref xa15, .ref xa27, .ref xa28, .ref xa33, .ref xa38, .ref xa41, .ref xa45, .ref xa46, .ref xa47, .ref xa52, .ref xa54, .int 0, .ref xa55, .ref xa60, .ref xa62, .ref xa67, .int (-1)]))]) (w1 := [(xa1, .inr (8, [.ref xa2, .int 16])), (xa2, .inl (kB, 700, .inl g_14))]) hP hD [1, 2] [0] rfl rfl (by decide) (by decide) hk1 hFc hP1 hD1
  generalize H1 = H at hP hS ⊢
  have hP : va_P (dC, dI) vwCl [(h0, .inr (10, [.ref xa1, .ref xa3, .ref xa15, .ref xa27, .ref xa28, .ref xa33, .ref xa38, .ref xa41, .ref xa45, .ref xa46, .ref xa47, .ref xa52, .ref xa54, .int 0, .ref xa55, .ref xa60, .ref xa62, .ref xa67, .int (-1)])), (xa1, .inr (8, [.ref xa2, .int 16])), (xa2, .inl (kB, 700, .inl g_14))] H := hP
  have hD : va_D A [(h0, .inr (10, [.ref xa1, .ref xa3, .ref xa15, .ref xa27, .ref xa28, .ref xa33, .ref xa38, .ref xa41, .ref xa45, .ref xa46, .ref xa47, .ref xa52, .ref xa54, .int 0, .ref xa55, .ref xa60, .ref xa62, .ref xa67, .int (-1)])), (xa1, .inr (8, [.ref xa2, .int 16])), (xa2, .inl (kB, 700, .inl g_14))] := hD
  refine W.widen (k := 0) (n := 0) (Nat.le_of_ble_eq_true rfl) (Nat.le_of_ble_eq_true rfl) ?_
  refine lv_aload_n hx hb dX10_feed_47 rfl (lv_at hl 0 rfl) ?_
  refine va_get (D := (dC, dI)) (ci := 10) (v := .ref xa1) (C := RX10) (T := TX10) (N := 19) hx hb hts hin10 hown hK hP 0 rfl rfl 0 (by decide) (hts (.fieldLink RX10 12 "PathProber" "tape" "LPathProber$Tape;") (List.mem_of_getElem? (i := 1) (by decide +kernel))) (fun _ h9 => h9) rfl dX10_feed_48 ?_
  refine lv_iload hx hb dX10_feed_51 (lv_at hl 5 rfl) ?_
  have hPc := hP.sub (ws' := [(xa1, .inr (8, [.ref xa2, .int 16])), (xa2, .inl (kB, 700, .inl g_14))]) [1, 2] rfl
  have hDc := hD.sub (ws' := [(xa1, .inr (8, [.ref xa2, .int 16])), (xa2, .inl (kB, 700, .inl g_14))]) [1, 2] (by decide) rfl
  have hFc := va_free (wc := [(xa1, .inr (8, [.ref xa2, .int 16])), (xa2, .inl (kB, 700, .inl g_14))]) hD hS hA [1, 2] rfl
  refine va_callv (va_runV (As := [.int p4]) (rest := []) ⟨hx, hb, hml, hown, hts⟩ (k8_append_16 l dC dI kB kI kJ kZ kC kS H.size xa1 xa2 p4 g_14) (cwV 1 hts gX10_feed_X8_append rfl rfl rfl (by decide +kernel) ⟨Nat.le_of_ble_eq_true rfl, Nat.le_of_ble_eq_true rfl⟩) ⟨fun a U g mk q => by obtain ⟨q0, q1, qP, qE, qD⟩ := q; exact ⟨q0, q1, qP, kE_call qE, qD⟩, va_recv hK hP (ci := 8) (q0 := 1) rfl rfl, fun U hU hW => ⟨rfl, by rw [hU], by rw [hU]; exact hPc, kE_warm hW hE, hDc.weaken (fun _ _ _ _ => trivial)⟩⟩ rfl rfl hl.1 rfl (lv_room (Nat.le_of_ble_eq_true rfl)) dX10_feed_53 ⟨Nat.le_of_ble_eq_true rfl, Nat.le_of_ble_eq_true rfl⟩) hS (fun q _ h => hFc q h) hFc (fun u t H1 locs ht hvm w16 hB hz1 hk1 hS => ?_)
  obtain ⟨g_17, hP1, hD1⟩ := hB
  rw [ht] at hP1
  try dsimp only at w16
  obtain ⟨hP, hD⟩ := va_join (wr := [(h0, .inr (10, [.ref xa1, .ref xa3, .ref xa15, .ref xa27, .ref xa28, .ref xa33, .ref xa38, .ref xa41, .ref xa45, .ref xa46, .ref xa47, .ref xa52, .ref xa54, .int 0, .ref xa55, .ref xa60, .ref xa62, .ref xa67, .int (-1)]))]) (w1 := [(xa1, .inr (8, [.ref xa2, .int 20])), (xa2, .inl (kB, 700, .inl g_17))]) hP hD [1, 2] [0] rfl rfl (by decide) (by decide) hk1 hFc hP1 hD1
  generalize H1 = H at hP hS ⊢
  have hP : va_P (dC, dI) vwCl [(h0, .inr (10, [.ref xa1, .ref xa3, .ref xa15, .ref xa27, .ref xa28, .ref xa33, .ref xa38, .ref xa41, .ref xa45, .ref xa46, .ref xa47, .ref xa52, .ref xa54, .int 0, .ref xa55, .ref xa60, .ref xa62, .ref xa67, .int (-1)])), (xa1, .inr (8, [.ref xa2, .int 20])), (xa2, .inl (kB, 700, .inl g_17))] H := hP
  have hD : va_D A [(h0, .inr (10, [.ref xa1, .ref xa3, .ref xa15, .ref xa27, .ref xa28, .ref xa33, .ref xa38, .ref xa41, .ref xa45, .ref xa46, .ref xa47, .ref xa52, .ref xa54, .int 0, .ref xa55, .ref xa60, .ref xa62, .ref xa67, .int (-1)])), (xa1, .inr (8, [.ref xa2, .int 20])), (xa2, .inl (kB, 700, .inl g_17))] := hD
  refine W.widen (k := 0) (n := 0) (Nat.le_of_ble_eq_true rfl) (Nat.le_of_ble_eq_true rfl) ?_
  refine lv_aload_n hx hb dX10_feed_56 rfl (lv_at hl 0 rfl) ?_
  refine va_get (D := (dC, dI)) (ci := 10) (v := .ref xa1) (C := RX10) (T := TX10) (N := 19) hx hb hts hin10 hown hK hP 0 rfl rfl 0 (by decide) (hts (.fieldLink RX10 12 "PathProber" "tape" "LPathProber$Tape;") (List.mem_of_getElem? (i := 1) (by decide +kernel))) (fun _ h9 => h9) rfl dX10_feed_57 ?_
  refine va_get (D := (dC, dI)) (ci := 8) (v := .int 20) (C := RX8) (T := TX8) (N := 2) hx hb hts hin8 hown hK hP 1 rfl rfl 1 (by decide) (hts (.fieldLink RX10 125 "PathProber$Tape" "length" "I") (List.mem_of_getElem? (i := 2) (by decide +kernel))) (fun _ h9 => h9) rfl dX10_feed_60 ?_
  have hP9 := hP.sub (ws' := []) [] rfl
  have hD9 := hD.sub (ws' := []) [] (by decide) rfl
  exact W.iret (v := 20) hx hb hr (fun t ht hW => ⟨⟨20, (), rfl, rfl, by rw [ht]; exact hP9, hD9⟩, hS.F ht⟩) hS.2.2 dX10_feed_63
def rm_k11_feed : Room := { frames := 0, cells := 0, slots := 0, locals := 0 }
set_option maxHeartbeats 4000000 in
set_option maxRecDepth 100000 in
theorem k11_feed (l : Launch) (dC : Nat → ClassId) (dI : Nat → Nat → Nat) (kB kI kJ kZ kC kS : ClassId) (sz : Nat) (m0 : Nat) (ywords : Nat) (ykinds : Nat) (ytold : Nat) (ykind : Nat) (ysalt : Nat) (ypace : Nat) (ymute : Nat) (ylate : Nat) (yfrom : Nat) (yto : Nat) (ygoal : Nat) (ynow : Nat) (ystatus : Nat) (ytape : Nat) (yreach : Nat) (ymet : Nat) (ypast : Nat) (yisAt : Nat) (ywaysTo : Nat) (ywide : Nat) (ydiamondFrom : Nat) (ydiamondTo : Nat) (ynotedPort : Nat) (ynotedGoal : Nat) (ynotedHop : Nat) (ynotedAddress : Nat) (yfitting : Nat) (yrowThen : Nat) (yimageRow : Nat) (ypastThen : Nat) (ynotedPortThen : Nat) (ynotedGoalThen : Nat) (ynotedHopThen : Nat) (ynotedAddressThen : Nat) (ystatusThen : Nat) (p0 : Int32) (p1 : Int32) (p2 : Int32) (p3 : Int32) (p4 : Int32) : Met l yX11_feed wsX11_feed rm_k11_feed (va_Pc [.ref m0, .int p0, .int p1, .int p2, .int p3, .int p4] (fun U => U.heap.size = sz ∧ va_P (dC, dI) vwCl [(m0, .inr (11, [.ref ywords, .ref ykinds, .int 0, .ref ytold, .ref ykind, .ref ysalt, .ref ypace, .ref ymute, .ref ylate, .ref yfrom, .ref yto, .ref ygoal, .ref ynow, .ref ystatus, .ref ytape, .int 0, .int 0, .int 0, .int 0, .int 0, .int 0, .int 0, .int 0, .int 0, .int (-1), .ref yreach, .int (-1), .int 0, .int 0, .int 0, .int 0, .int 0, .ref ymet, .int 0, .ref ypast, .ref yisAt, .ref ywaysTo, .ref ywide, .ref ydiamondFrom, .ref ydiamondTo, .int 0, .int 0, .int 0, .int 0, .ref ynotedPort, .ref ynotedGoal, .ref ynotedHop, .ref ynotedAddress, .ref yfitting, .int 0, .ref yrowThen, .int 0, .int 0, .int 0, .ref yimageRow, .ref ypastThen, .ref ynotedPortThen, .ref ynotedGoalThen, .ref ynotedHopThen, .ref ynotedAddressThen, .ref ystatusThen])), (ytape, .inl (kI, 700, .inl (fun _ => 0)))] U.heap ∧ kE dC dI kB kI kJ kZ kC kS U ∧ va_D (fun _ => True) [(m0, .inr (11, [.ref ywords, .ref ykinds, .int 0, .ref ytold, .ref ykind, .ref ysalt, .ref ypace, .ref ymute, .ref ylate, .ref yfrom, .ref yto, .ref ygoal, .ref ynow, .ref ystatus, .ref ytape, .int 0, .int 0, .int 0, .int 0, .int 0, .int 0, .int 0, .int 0, .int 0, .int (-1), .ref yreach, .int (-1), .int 0, .int 0, .int 0, .int 0, .int 0, .ref ymet, .int 0, .ref ypast, .ref yisAt, .ref ywaysTo, .ref ywide, .ref ydiamondFrom, .ref ydiamondTo, .int 0, .int 0, .int 0, .int 0, .ref ynotedPort, .ref ynotedGoal, .ref ynotedHop, .ref ynotedAddress, .ref yfitting, .int 0, .ref yrowThen, .int 0, .int 0, .int 0, .ref yimageRow, .ref ypastThen, .ref ynotedPortThen, .ref ynotedGoalThen, .ref ynotedHopThen, .ref ynotedAddressThen, .ref ystatusThen])), (ytape, .inl (kI, 700, .inl (fun _ => 0)))])) (va_Qi (fun (r : Int32) (_ : Unit) => r = 20) (fun _ t => va_P (dC, dI) vwCl [] t.heap ∧ va_D (va_A [(m0, .inr (11, [.ref ywords, .ref ykinds, .int 0, .ref ytold, .ref ykind, .ref ysalt, .ref ypace, .ref ymute, .ref ylate, .ref yfrom, .ref yto, .ref ygoal, .ref ynow, .ref ystatus, .ref ytape, .int 0, .int 0, .int 0, .int 0, .int 0, .int 0, .int 0, .int 0, .int 0, .int (-1), .ref yreach, .int (-1), .int 0, .int 0, .int 0, .int 0, .int 0, .ref ymet, .int 0, .ref ypast, .ref yisAt, .ref ywaysTo, .ref ywide, .ref ydiamondFrom, .ref ydiamondTo, .int 0, .int 0, .int 0, .int 0, .ref ynotedPort, .ref ynotedGoal, .ref ynotedHop, .ref ynotedAddress, .ref yfitting, .int 0, .ref yrowThen, .int 0, .int 0, .int 0, .ref yimageRow, .ref ypastThen, .ref ynotedPortThen, .ref ynotedGoalThen, .ref ynotedHopThen, .ref ynotedAddressThen, .ref ystatusThen])), (ytape, .inl (kI, 700, .inl (fun _ => 0)))] sz) []) (va_A [(m0, .inr (11, [.ref ywords, .ref ykinds, .int 0, .ref ytold, .ref ykind, .ref ysalt, .ref ypace, .ref ymute, .ref ylate, .ref yfrom, .ref yto, .ref ygoal, .ref ynow, .ref ystatus, .ref ytape, .int 0, .int 0, .int 0, .int 0, .int 0, .int 0, .int 0, .int 0, .int 0, .int (-1), .ref yreach, .int (-1), .int 0, .int 0, .int 0, .int 0, .int 0, .ref ymet, .int 0, .ref ypast, .ref yisAt, .ref ywaysTo, .ref ywide, .ref ydiamondFrom, .ref ydiamondTo, .int 0, .int 0, .int 0, .int 0, .ref ynotedPort, .ref ynotedGoal, .ref ynotedHop, .ref ynotedAddress, .ref yfitting, .int 0, .ref yrowThen, .int 0, .int 0, .int 0, .ref yimageRow, .ref ypastThen, .ref ynotedPortThen, .ref ynotedGoalThen, .ref ynotedHopThen, .ref ynotedAddressThen, .ref ystatusThen])), (ytape, .inl (kI, 700, .inl (fun _ => 0)))] sz)) 0 0 (va_A [(m0, .inr (11, [.ref ywords, .ref ykinds, .int 0, .ref ytold, .ref ykind, .ref ysalt, .ref ypace, .ref ymute, .ref ylate, .ref yfrom, .ref yto, .ref ygoal, .ref ynow, .ref ystatus, .ref ytape, .int 0, .int 0, .int 0, .int 0, .int 0, .int 0, .int 0, .int 0, .int 0, .int (-1), .ref yreach, .int (-1), .int 0, .int 0, .int 0, .int 0, .int 0, .ref ymet, .int 0, .ref ypast, .ref yisAt, .ref ywaysTo, .ref ywide, .ref ydiamondFrom, .ref ydiamondTo, .int 0, .int 0, .int 0, .int 0, .ref ynotedPort, .ref ynotedGoal, .ref ynotedHop, .ref ynotedAddress, .ref yfitting, .int 0, .ref yrowThen, .int 0, .int 0, .int 0, .ref yimageRow, .ref ypastThen, .ref ynotedPortThen, .ref ynotedGoalThen, .ref ynotedHopThen, .ref ynotedAddressThen, .ref ystatusThen])), (ytape, .inl (kI, 700, .inl (fun _ => 0)))] sz) := by
  refine Met.ofW (cc := cX11_feed) (maxL := 8) (ret := (some .int)) (by decide) rfl ?_
  intro p e s m args0 below meth c s₁ B hml hv
  obtain ⟨hargs, hsz, hP, hE, hD0⟩ := hv
  have hx := B.exec
  have hb := B.bytes
  have hr := B.returns
  have hts := atoms_spec (ws := wsX11_feed) B.pre
  have hown : s.vm.findClass RX11 = some m.cls := findClass_of_methodNamed B.named
  have hlocks := B.notSynchronized
  have hK := hE.1
  have hin11 : ∀ w ∈ wsX110, w ∈ wsX11_feed := fun _ h9 => List.mem_cons_of_mem _ (List.mem_append_right _ h9)
  subst hsz
  have hD := hD0.self (sz := s.heap.size)
  generalize hAe : va_A [(m0, .inr (11, [.ref ywords, .ref ykinds, .int 0, .ref ytold, .ref ykind, .ref ysalt, .ref ypace, .ref ymute, .ref ylate, .ref yfrom, .ref yto, .ref ygoal, .ref ynow, .ref ystatus, .ref ytape, .int 0, .int 0, .int 0, .int 0, .int 0, .int 0, .int 0, .int 0, .int 0, .int (-1), .ref yreach, .int (-1), .int 0, .int 0, .int 0, .int 0, .int 0, .ref ymet, .int 0, .ref ypast, .ref yisAt, .ref ywaysTo, .ref ywide, .ref ydiamondFrom, .ref ydiamondTo, .int 0, .int 0, .int 0, .int 0, .ref ynotedPort, .ref ynotedGoal, .ref ynotedHop, .ref ynotedAddress, .ref yfitting, .int 0, .ref yrowThen, .int 0, .int 0, .int 0, .ref yimageRow, .ref ypastThen, .ref ynotedPortThen, .ref ynotedGoalThen, .ref ynotedHopThen, .ref ynotedAddressThen, .ref ystatusThen])), (ytape, .inl (kI, 700, .inl (fun _ => 0)))] s.heap.size = A at hD ⊢
  have hA : ∀ q : Nat, s.heap.size ≤ q → A q := fun q h => by rw [← hAe]; exact Or.inr h
  have hS : va_S A s.heap s.heap [] := va_S.rf
  have hP : va_P (dC, dI) vwCl [(m0, .inr (11, [.ref ywords, .ref ykinds, .int 0, .ref ytold, .ref ykind, .ref ysalt, .ref ypace, .ref ymute, .ref ylate, .ref yfrom, .ref yto, .ref ygoal, .ref ynow, .ref ystatus, .ref ytape, .int 0, .int 0, .int 0, .int 0, .int 0, .int 0, .int 0, .int 0, .int 0, .int (-1), .ref yreach, .int (-1), .int 0, .int 0, .int 0, .int 0, .int 0, .ref ymet, .int 0, .ref ypast, .ref yisAt, .ref ywaysTo, .ref ywide, .ref ydiamondFrom, .ref ydiamondTo, .int 0, .int 0, .int 0, .int 0, .ref ynotedPort, .ref ynotedGoal, .ref ynotedHop, .ref ynotedAddress, .ref yfitting, .int 0, .ref yrowThen, .int 0, .int 0, .int 0, .ref yimageRow, .ref ypastThen, .ref ynotedPortThen, .ref ynotedGoalThen, .ref ynotedHopThen, .ref ynotedAddressThen, .ref ystatusThen])), (ytape, .inl (kI, 700, .inl (fun _ => 0)))] s.heap := hP
  have hl := lv_entry ([.ref m0, .int p0, .int p1, .int p2, .int p3, .int p4]) (n := 8) (Nat.le_of_ble_eq_true rfl)
  have hla : entryFrame m args0 8 = entryFrame m ([.ref m0, .int p0, .int p1, .int p2, .int p3, .int p4] : List Value).toArray 8 := by rw [hargs]
  rw [hla, lg_entry_eq]
  generalize (lg_sl ([.ref m0, .int p0, .int p1, .int p2, .int p3, .int p4]) ++ List.replicate (8 - (lg_sl ([.ref m0, .int p0, .int p1, .int p2, .int p3, .int p4])).length) Slot.unset).toArray = ls at hl ⊢
  have hl : lv_has ls 8 [(0, .ref m0), (1, .int p0), (2, .int p1), (3, .int p2), (4, .int p3), (5, .int p4)] := hl
  refine lv_aload_n hx hb dX11_feed_0 rfl (lv_at hl 0 rfl) ?_
  refine lv_iconst (v := 0) hx hb dX11_feed_1 (by decide) ?_
  refine va_put (D := (dC, dI)) (ci := 11) (v := .int 0) (ty := .int) (C := RX11) (T := TX11) (N := 61) hx hb hts hin11 tyX11 tyX11_ok nmX11 hown hK hP hD hS 0 rfl rfl 2 (by decide) (hts (.fieldLink RX11 142 "PathProberModel" "code" "I") (List.mem_of_getElem? (i := 1) (by decide +kernel))) (fun _ h9 => h9) rfl (by decide +kernel) rfl rfl (Nat.le_of_ble_eq_true rfl) dX11_feed_2 (fun H locs hP hD hS => ?_)
  have hP : va_P (dC, dI) vwCl [(m0, .inr (11, [.ref ywords, .ref ykinds, .int 0, .ref ytold, .ref ykind, .ref ysalt, .ref ypace, .ref ymute, .ref ylate, .ref yfrom, .ref yto, .ref ygoal, .ref ynow, .ref ystatus, .ref ytape, .int 0, .int 0, .int 0, .int 0, .int 0, .int 0, .int 0, .int 0, .int 0, .int (-1), .ref yreach, .int (-1), .int 0, .int 0, .int 0, .int 0, .int 0, .ref ymet, .int 0, .ref ypast, .ref yisAt, .ref ywaysTo, .ref ywide, .ref ydiamondFrom, .ref ydiamondTo, .int 0, .int 0, .int 0, .int 0, .ref ynotedPort, .ref ynotedGoal, .ref ynotedHop, .ref ynotedAddress, .ref yfitting, .int 0, .ref yrowThen, .int 0, .int 0, .int 0, .ref yimageRow, .ref ypastThen, .ref ynotedPortThen, .ref ynotedGoalThen, .ref ynotedHopThen, .ref ynotedAddressThen, .ref ystatusThen])), (ytape, .inl (kI, 700, .inl (fun _ => 0)))] H := hP
  have hD : va_D A [(m0, .inr (11, [.ref ywords, .ref ykinds, .int 0, .ref ytold, .ref ykind, .ref ysalt, .ref ypace, .ref ymute, .ref ylate, .ref yfrom, .ref yto, .ref ygoal, .ref ynow, .ref ystatus, .ref ytape, .int 0, .int 0, .int 0, .int 0, .int 0, .int 0, .int 0, .int 0, .int 0, .int (-1), .ref yreach, .int (-1), .int 0, .int 0, .int 0, .int 0, .int 0, .ref ymet, .int 0, .ref ypast, .ref yisAt, .ref ywaysTo, .ref ywide, .ref ydiamondFrom, .ref ydiamondTo, .int 0, .int 0, .int 0, .int 0, .ref ynotedPort, .ref ynotedGoal, .ref ynotedHop, .ref ynotedAddress, .ref yfitting, .int 0, .ref yrowThen, .int 0, .int 0, .int 0, .ref yimageRow, .ref ypastThen, .ref ynotedPortThen, .ref ynotedGoalThen, .ref ynotedHopThen, .ref ynotedAddressThen, .ref ystatusThen])), (ytape, .inl (kI, 700, .inl (fun _ => 0)))] := hD
  refine lv_aload_n hx hb dX11_feed_5 rfl (lv_at hl 0 rfl) ?_
  refine va_get (D := (dC, dI)) (ci := 11) (v := .int 0) (C := RX11) (T := TX11) (N := 61) hx hb hts hin11 hown hK hP 0 rfl rfl 15 (by decide) (hts (.fieldLink RX11 145 "PathProberModel" "taped" "I") (List.mem_of_getElem? (i := 2) (by decide +kernel))) (fun _ h9 => h9) rfl dX11_feed_6 ?_
  refine lv_bipush (v := 20) hx hb dX11_feed_9 (by decide) ?_
  refine lv_iadd hx hb dX11_feed_11 ?_
  refine lv_topi (fun z1 e2 => ?_)
  obtain rfl : z1 = (20 : Int32) := e2.trans (by decide)
  refine lv_sipush (v := 700) hx hb dX11_feed_12 (by decide) ?_
  refine lv_icmp_le (tgt := 20) hx hb dX11_feed_15 (by decide) (fun _ => ?_) (fun c9 => absurd (by decide) c9)
  refine lv_iconst (v := 0) hx hb dX11_feed_20 (by decide) ?_
  refine lv_istore (lv' := [(6, .int 0), (0, .ref m0), (1, .int p0), (2, .int p1), (3, .int p2), (4, .int p3), (5, .int p4)]) hx hb dX11_feed_21 hl (by decide) rfl (fun ls hl => ?_)
  refine lv_iload hx hb dX11_feed_23 (lv_at hl 0 rfl) ?_
  refine lv_bipush (v := 20) hx hb dX11_feed_25 (by decide) ?_
  refine lv_icmp_ge (tgt := 120) hx hb dX11_feed_27 (by decide) (fun c9 => absurd c9 (by decide)) (fun _ => ?_)
  refine lv_iload hx hb dX11_feed_30 (lv_at hl 0 rfl) ?_
  refine lv_iconst (v := 4) hx hb dX11_feed_32 (by decide) ?_
  refine lv_icmp_ge (tgt := 40) hx hb dX11_feed_33 (by decide) (fun c9 => absurd c9 (by decide)) (fun _ => ?_)
  refine lv_iload_n hx hb dX11_feed_36 rfl (lv_at hl 2 rfl) ?_
  refine lv_goto (tgt := 76) hx hb dX11_feed_37 (by decide) ?_
  refine lv_istore (lv' := [(7, .int p0), (6, .int 0), (0, .ref m0), (1, .int p0), (2, .int p1), (3, .int p2), (4, .int p3), (5, .int p4)]) hx hb dX11_feed_76 hl (by decide) rfl (fun ls hl => ?_)
  refine lv_aload_n hx hb dX11_feed_78 rfl (lv_at hl 2 rfl) ?_
  refine va_get (D := (dC, dI)) (ci := 11) (v := .ref ytape) (C := RX11) (T := TX11) (N := 61) hx hb hts hin11 hown hK hP 0 rfl rfl 14 (by decide) (hts (.fieldLink RX11 66 "PathProberModel" "tape" "[I") (List.mem_of_getElem? (i := 3) (by decide +kernel))) (fun _ h9 => h9) rfl dX11_feed_79 ?_
  refine lv_aload_n hx hb dX11_feed_82 rfl (lv_at hl 2 rfl) ?_
  refine va_get (D := (dC, dI)) (ci := 11) (v := .int 0) (C := RX11) (T := TX11) (N := 61) hx hb hts hin11 hown hK hP 0 rfl rfl 15 (by decide) (hts (.fieldLink RX11 145 "PathProberModel" "taped" "I") (List.mem_of_getElem? (i := 2) (by decide +kernel))) (fun _ h9 => h9) rfl dX11_feed_83 ?_
  refine lv_iload hx hb dX11_feed_86 (lv_at hl 0 rfl) ?_
  refine lv_bipush (v := 24) hx hb dX11_feed_88 (by decide) ?_
  refine lv_bipush (v := 8) hx hb dX11_feed_90 (by decide) ?_
  refine lv_iload hx hb dX11_feed_92 (lv_at hl 1 rfl) ?_
  refine lv_iconst (v := 4) hx hb dX11_feed_94 (by decide) ?_
  refine lv_irem hx hb dX11_feed_95 (by decide) ?_
  refine lv_topi (fun z3 e4 => ?_)
  obtain rfl : z3 = (0 : Int32) := e4.trans (by decide)
  refine lv_imul hx hb dX11_feed_96 ?_
  refine lv_topi (fun z5 e6 => ?_)
  obtain rfl : z5 = (0 : Int32) := e6.trans (by decide)
  refine lv_isub hx hb dX11_feed_97 ?_
  refine lv_topi (fun z7 e8 => ?_)
  obtain rfl : z7 = (24 : Int32) := e8.trans (by decide)
  refine lv_ishr hx hb dX11_feed_98 ?_
  refine lv_sipush (v := 255) hx hb dX11_feed_99 (by decide) ?_
  refine lv_iand hx hb dX11_feed_102 ?_
  refine va_iast hx hb hK hP hD hS 1 1 rfl rfl (vp_in_nI (n := 0) (by decide) (by decide)) dX11_feed_103 (fun H locs hP hD hS => ?_)
  have hP : va_P (dC, dI) vwCl [(m0, .inr (11, [.ref ywords, .ref ykinds, .int 0, .ref ytold, .ref ykind, .ref ysalt, .ref ypace, .ref ymute, .ref ylate, .ref yfrom, .ref yto, .ref ygoal, .ref ynow, .ref ystatus, .ref ytape, .int 0, .int 0, .int 0, .int 0, .int 0, .int 0, .int 0, .int 0, .int 0, .int (-1), .ref yreach, .int (-1), .int 0, .int 0, .int 0, .int 0, .int 0, .ref ymet, .int 0, .ref ypast, .ref yisAt, .ref ywaysTo, .ref ywide, .ref ydiamondFrom, .ref ydiamondTo, .int 0, .int 0, .int 0, .int 0, .ref ynotedPort, .ref ynotedGoal, .ref ynotedHop, .ref ynotedAddress, .ref yfitting, .int 0, .ref yrowThen, .int 0, .int 0, .int 0, .ref yimageRow, .ref ypastThen, .ref ynotedPortThen, .ref ynotedGoalThen, .ref ynotedHopThen, .ref ynotedAddressThen, .ref ystatusThen])), (ytape, .inl (kI, 700, .inl (upd (fun _ => 0) 0 ((p0 >>> ((24 : Int32) &&& 31)) &&& 255))))] H := hP
  have hD : va_D A [(m0, .inr (11, [.ref ywords, .ref ykinds, .int 0, .ref ytold, .ref ykind, .ref ysalt, .ref ypace, .ref ymute, .ref ylate, .ref yfrom, .ref yto, .ref ygoal, .ref ynow, .ref ystatus, .ref ytape, .int 0, .int 0, .int 0, .int 0, .int 0, .int 0, .int 0, .int 0, .int 0, .int (-1), .ref yreach, .int (-1), .int 0, .int 0, .int 0, .int 0, .int 0, .ref ymet, .int 0, .ref ypast, .ref yisAt, .ref ywaysTo, .ref ywide, .ref ydiamondFrom, .ref ydiamondTo, .int 0, .int 0, .int 0, .int 0, .ref ynotedPort, .ref ynotedGoal, .ref ynotedHop, .ref ynotedAddress, .ref yfitting, .int 0, .ref yrowThen, .int 0, .int 0, .int 0, .ref yimageRow, .ref ypastThen, .ref ynotedPortThen, .ref ynotedGoalThen, .ref ynotedHopThen, .ref ynotedAddressThen, .ref ystatusThen])), (ytape, .inl (kI, 700, .inl (upd (fun _ => 0) 0 ((p0 >>> ((24 : Int32) &&& 31)) &&& 255))))] := hD
  generalize (upd (fun _ => 0) 0 ((p0 >>> ((24 : Int32) &&& 31)) &&& 255)) = f9 at hP hD
  refine lv_aload_n hx hb dX11_feed_104 rfl (lv_at hl 2 rfl) ?_
  refine lv_dup hx hb dX11_feed_105 rfl ?_
  refine va_get (D := (dC, dI)) (ci := 11) (v := .int 0) (C := RX11) (T := TX11) (N := 61) hx hb hts hin11 hown hK hP 0 rfl rfl 15 (by decide) (hts (.fieldLink RX11 145 "PathProberModel" "taped" "I") (List.mem_of_getElem? (i := 2) (by decide +kernel))) (fun _ h9 => h9) rfl dX11_feed_106 ?_
  refine lv_iconst (v := 1) hx hb dX11_feed_109 (by decide) ?_
  refine lv_iadd hx hb dX11_feed_110 ?_
  refine lv_topi (fun z10 e11 => ?_)
  obtain rfl : z10 = (1 : Int32) := e11.trans (by decide)
  refine va_put (D := (dC, dI)) (ci := 11) (v := .int 1) (ty := .int) (C := RX11) (T := TX11) (N := 61) hx hb hts hin11 tyX11 tyX11_ok nmX11 hown hK hP hD hS 0 rfl rfl 15 (by decide) (hts (.fieldLink RX11 145 "PathProberModel" "taped" "I") (List.mem_of_getElem? (i := 2) (by decide +kernel))) (fun _ h9 => h9) rfl (by decide +kernel) rfl rfl (Nat.le_of_ble_eq_true rfl) dX11_feed_111 (fun H locs hP hD hS => ?_)
  have hP : va_P (dC, dI) vwCl [(m0, .inr (11, [.ref ywords, .ref ykinds, .int 0, .ref ytold, .ref ykind, .ref ysalt, .ref ypace, .ref ymute, .ref ylate, .ref yfrom, .ref yto, .ref ygoal, .ref ynow, .ref ystatus, .ref ytape, .int 1, .int 0, .int 0, .int 0, .int 0, .int 0, .int 0, .int 0, .int 0, .int (-1), .ref yreach, .int (-1), .int 0, .int 0, .int 0, .int 0, .int 0, .ref ymet, .int 0, .ref ypast, .ref yisAt, .ref ywaysTo, .ref ywide, .ref ydiamondFrom, .ref ydiamondTo, .int 0, .int 0, .int 0, .int 0, .ref ynotedPort, .ref ynotedGoal, .ref ynotedHop, .ref ynotedAddress, .ref yfitting, .int 0, .ref yrowThen, .int 0, .int 0, .int 0, .ref yimageRow, .ref ypastThen, .ref ynotedPortThen, .ref ynotedGoalThen, .ref ynotedHopThen, .ref ynotedAddressThen, .ref ystatusThen])), (ytape, .inl (kI, 700, .inl f9))] H := hP
  have hD : va_D A [(m0, .inr (11, [.ref ywords, .ref ykinds, .int 0, .ref ytold, .ref ykind, .ref ysalt, .ref ypace, .ref ymute, .ref ylate, .ref yfrom, .ref yto, .ref ygoal, .ref ynow, .ref ystatus, .ref ytape, .int 1, .int 0, .int 0, .int 0, .int 0, .int 0, .int 0, .int 0, .int 0, .int (-1), .ref yreach, .int (-1), .int 0, .int 0, .int 0, .int 0, .int 0, .ref ymet, .int 0, .ref ypast, .ref yisAt, .ref ywaysTo, .ref ywide, .ref ydiamondFrom, .ref ydiamondTo, .int 0, .int 0, .int 0, .int 0, .ref ynotedPort, .ref ynotedGoal, .ref ynotedHop, .ref ynotedAddress, .ref yfitting, .int 0, .ref yrowThen, .int 0, .int 0, .int 0, .ref yimageRow, .ref ypastThen, .ref ynotedPortThen, .ref ynotedGoalThen, .ref ynotedHopThen, .ref ynotedAddressThen, .ref ystatusThen])), (ytape, .inl (kI, 700, .inl f9))] := hD
  refine lv_iinc (v := 1) (lv' := [(6, .int 1), (7, .int p0), (0, .ref m0), (1, .int p0), (2, .int p1), (3, .int p2), (4, .int p3), (5, .int p4)]) hx hb dX11_feed_114 hl (k := 1) rfl (by decide) (by decide) rfl (fun ls hl => ?_)
  refine lv_goto (tgt := 23) hx hb dX11_feed_117 (by decide) ?_
  refine lv_iload hx hb dX11_feed_23 (lv_at hl 0 rfl) ?_
  refine lv_bipush (v := 20) hx hb dX11_feed_25 (by decide) ?_
  refine lv_icmp_ge (tgt := 120) hx hb dX11_feed_27 (by decide) (fun c9 => absurd c9 (by decide)) (fun _ => ?_)
  refine lv_iload hx hb dX11_feed_30 (lv_at hl 0 rfl) ?_
  refine lv_iconst (v := 4) hx hb dX11_feed_32 (by decide) ?_
  refine lv_icmp_ge (tgt := 40) hx hb dX11_feed_33 (by decide) (fun c9 => absurd c9 (by decide)) (fun _ => ?_)
  refine lv_iload_n hx hb dX11_feed_36 rfl (lv_at hl 3 rfl) ?_
  refine lv_goto (tgt := 76) hx hb dX11_feed_37 (by decide) ?_
  refine lv_istore (lv' := [(7, .int p0), (6, .int 1), (0, .ref m0), (1, .int p0), (2, .int p1), (3, .int p2), (4, .int p3), (5, .int p4)]) hx hb dX11_feed_76 hl (by decide) rfl (fun ls hl => ?_)
  refine lv_aload_n hx hb dX11_feed_78 rfl (lv_at hl 2 rfl) ?_
  refine va_get (D := (dC, dI)) (ci := 11) (v := .ref ytape) (C := RX11) (T := TX11) (N := 61) hx hb hts hin11 hown hK hP 0 rfl rfl 14 (by decide) (hts (.fieldLink RX11 66 "PathProberModel" "tape" "[I") (List.mem_of_getElem? (i := 3) (by decide +kernel))) (fun _ h9 => h9) rfl dX11_feed_79 ?_
  refine lv_aload_n hx hb dX11_feed_82 rfl (lv_at hl 2 rfl) ?_
  refine va_get (D := (dC, dI)) (ci := 11) (v := .int 1) (C := RX11) (T := TX11) (N := 61) hx hb hts hin11 hown hK hP 0 rfl rfl 15 (by decide) (hts (.fieldLink RX11 145 "PathProberModel" "taped" "I") (List.mem_of_getElem? (i := 2) (by decide +kernel))) (fun _ h9 => h9) rfl dX11_feed_83 ?_
  refine lv_iload hx hb dX11_feed_86 (lv_at hl 0 rfl) ?_
  refine lv_bipush (v := 24) hx hb dX11_feed_88 (by decide) ?_
  refine lv_bipush (v := 8) hx hb dX11_feed_90 (by decide) ?_
  refine lv_iload hx hb dX11_feed_92 (lv_at hl 1 rfl) ?_
  refine lv_iconst (v := 4) hx hb dX11_feed_94 (by decide) ?_
  refine lv_irem hx hb dX11_feed_95 (by decide) ?_
  refine lv_topi (fun z12 e13 => ?_)
  obtain rfl : z12 = (1 : Int32) := e13.trans (by decide)
  refine lv_imul hx hb dX11_feed_96 ?_
  refine lv_topi (fun z14 e15 => ?_)
  obtain rfl : z14 = (8 : Int32) := e15.trans (by decide)
  refine lv_isub hx hb dX11_feed_97 ?_
  refine lv_topi (fun z16 e17 => ?_)
  obtain rfl : z16 = (16 : Int32) := e17.trans (by decide)
  refine lv_ishr hx hb dX11_feed_98 ?_
  refine lv_sipush (v := 255) hx hb dX11_feed_99 (by decide) ?_
  refine lv_iand hx hb dX11_feed_102 ?_
  refine va_iast hx hb hK hP hD hS 1 1 rfl rfl (vp_in_nI (n := 1) (by decide) (by decide)) dX11_feed_103 (fun H locs hP hD hS => ?_)
  have hP : va_P (dC, dI) vwCl [(m0, .inr (11, [.ref ywords, .ref ykinds, .int 0, .ref ytold, .ref ykind, .ref ysalt, .ref ypace, .ref ymute, .ref ylate, .ref yfrom, .ref yto, .ref ygoal, .ref ynow, .ref ystatus, .ref ytape, .int 1, .int 0, .int 0, .int 0, .int 0, .int 0, .int 0, .int 0, .int 0, .int (-1), .ref yreach, .int (-1), .int 0, .int 0, .int 0, .int 0, .int 0, .ref ymet, .int 0, .ref ypast, .ref yisAt, .ref ywaysTo, .ref ywide, .ref ydiamondFrom, .ref ydiamondTo, .int 0, .int 0, .int 0, .int 0, .ref ynotedPort, .ref ynotedGoal, .ref ynotedHop, .ref ynotedAddress, .ref yfitting, .int 0, .ref yrowThen, .int 0, .int 0, .int 0, .ref yimageRow, .ref ypastThen, .ref ynotedPortThen, .ref ynotedGoalThen, .ref ynotedHopThen, .ref ynotedAddressThen, .ref ystatusThen])), (ytape, .inl (kI, 700, .inl (upd f9 1 ((p0 >>> ((16 : Int32) &&& 31)) &&& 255))))] H := hP
  have hD : va_D A [(m0, .inr (11, [.ref ywords, .ref ykinds, .int 0, .ref ytold, .ref ykind, .ref ysalt, .ref ypace, .ref ymute, .ref ylate, .ref yfrom, .ref yto, .ref ygoal, .ref ynow, .ref ystatus, .ref ytape, .int 1, .int 0, .int 0, .int 0, .int 0, .int 0, .int 0, .int 0, .int 0, .int (-1), .ref yreach, .int (-1), .int 0, .int 0, .int 0, .int 0, .int 0, .ref ymet, .int 0, .ref ypast, .ref yisAt, .ref ywaysTo, .ref ywide, .ref ydiamondFrom, .ref ydiamondTo, .int 0, .int 0, .int 0, .int 0, .ref ynotedPort, .ref ynotedGoal, .ref ynotedHop, .ref ynotedAddress, .ref yfitting, .int 0, .ref yrowThen, .int 0, .int 0, .int 0, .ref yimageRow, .ref ypastThen, .ref ynotedPortThen, .ref ynotedGoalThen, .ref ynotedHopThen, .ref ynotedAddressThen, .ref ystatusThen])), (ytape, .inl (kI, 700, .inl (upd f9 1 ((p0 >>> ((16 : Int32) &&& 31)) &&& 255))))] := hD
  generalize (upd f9 1 ((p0 >>> ((16 : Int32) &&& 31)) &&& 255)) = f18 at hP hD
  refine lv_aload_n hx hb dX11_feed_104 rfl (lv_at hl 2 rfl) ?_
  refine lv_dup hx hb dX11_feed_105 rfl ?_
  refine va_get (D := (dC, dI)) (ci := 11) (v := .int 1) (C := RX11) (T := TX11) (N := 61) hx hb hts hin11 hown hK hP 0 rfl rfl 15 (by decide) (hts (.fieldLink RX11 145 "PathProberModel" "taped" "I") (List.mem_of_getElem? (i := 2) (by decide +kernel))) (fun _ h9 => h9) rfl dX11_feed_106 ?_
  refine lv_iconst (v := 1) hx hb dX11_feed_109 (by decide) ?_
  refine lv_iadd hx hb dX11_feed_110 ?_
  refine lv_topi (fun z19 e20 => ?_)
  obtain rfl : z19 = (2 : Int32) := e20.trans (by decide)
  refine va_put (D := (dC, dI)) (ci := 11) (v := .int 2) (ty := .int) (C := RX11) (T := TX11) (N := 61) hx hb hts hin11 tyX11 tyX11_ok nmX11 hown hK hP hD hS 0 rfl rfl 15 (by decide) (hts (.fieldLink RX11 145 "PathProberModel" "taped" "I") (List.mem_of_getElem? (i := 2) (by decide +kernel))) (fun _ h9 => h9) rfl (by decide +kernel) rfl rfl (Nat.le_of_ble_eq_true rfl) dX11_feed_111 (fun H locs hP hD hS => ?_)
  have hP : va_P (dC, dI) vwCl [(m0, .inr (11, [.ref ywords, .ref ykinds, .int 0, .ref ytold, .ref ykind, .ref ysalt, .ref ypace, .ref ymute, .ref ylate, .ref yfrom, .ref yto, .ref ygoal, .ref ynow, .ref ystatus, .ref ytape, .int 2, .int 0, .int 0, .int 0, .int 0, .int 0, .int 0, .int 0, .int 0, .int (-1), .ref yreach, .int (-1), .int 0, .int 0, .int 0, .int 0, .int 0, .ref ymet, .int 0, .ref ypast, .ref yisAt, .ref ywaysTo, .ref ywide, .ref ydiamondFrom, .ref ydiamondTo, .int 0, .int 0, .int 0, .int 0, .ref ynotedPort, .ref ynotedGoal, .ref ynotedHop, .ref ynotedAddress, .ref yfitting, .int 0, .ref yrowThen, .int 0, .int 0, .int 0, .ref yimageRow, .ref ypastThen, .ref ynotedPortThen, .ref ynotedGoalThen, .ref ynotedHopThen, .ref ynotedAddressThen, .ref ystatusThen])), (ytape, .inl (kI, 700, .inl f18))] H := hP
  have hD : va_D A [(m0, .inr (11, [.ref ywords, .ref ykinds, .int 0, .ref ytold, .ref ykind, .ref ysalt, .ref ypace, .ref ymute, .ref ylate, .ref yfrom, .ref yto, .ref ygoal, .ref ynow, .ref ystatus, .ref ytape, .int 2, .int 0, .int 0, .int 0, .int 0, .int 0, .int 0, .int 0, .int 0, .int (-1), .ref yreach, .int (-1), .int 0, .int 0, .int 0, .int 0, .int 0, .ref ymet, .int 0, .ref ypast, .ref yisAt, .ref ywaysTo, .ref ywide, .ref ydiamondFrom, .ref ydiamondTo, .int 0, .int 0, .int 0, .int 0, .ref ynotedPort, .ref ynotedGoal, .ref ynotedHop, .ref ynotedAddress, .ref yfitting, .int 0, .ref yrowThen, .int 0, .int 0, .int 0, .ref yimageRow, .ref ypastThen, .ref ynotedPortThen, .ref ynotedGoalThen, .ref ynotedHopThen, .ref ynotedAddressThen, .ref ystatusThen])), (ytape, .inl (kI, 700, .inl f18))] := hD
  refine lv_iinc (v := 2) (lv' := [(6, .int 2), (7, .int p0), (0, .ref m0), (1, .int p0), (2, .int p1), (3, .int p2), (4, .int p3), (5, .int p4)]) hx hb dX11_feed_114 hl (k := 1) rfl (by decide) (by decide) rfl (fun ls hl => ?_)
  refine lv_goto (tgt := 23) hx hb dX11_feed_117 (by decide) ?_
  refine lv_iload hx hb dX11_feed_23 (lv_at hl 0 rfl) ?_
  refine lv_bipush (v := 20) hx hb dX11_feed_25 (by decide) ?_
  refine lv_icmp_ge (tgt := 120) hx hb dX11_feed_27 (by decide) (fun c9 => absurd c9 (by decide)) (fun _ => ?_)
  refine lv_iload hx hb dX11_feed_30 (lv_at hl 0 rfl) ?_
  refine lv_iconst (v := 4) hx hb dX11_feed_32 (by decide) ?_
  refine lv_icmp_ge (tgt := 40) hx hb dX11_feed_33 (by decide) (fun c9 => absurd c9 (by decide)) (fun _ => ?_)
  refine lv_iload_n hx hb dX11_feed_36 rfl (lv_at hl 3 rfl) ?_
  refine lv_goto (tgt := 76) hx hb dX11_feed_37 (by decide) ?_
  refine lv_istore (lv' := [(7, .int p0), (6, .int 2), (0, .ref m0), (1, .int p0), (2, .int p1), (3, .int p2), (4, .int p3), (5, .int p4)]) hx hb dX11_feed_76 hl (by decide) rfl (fun ls hl => ?_)
  refine lv_aload_n hx hb dX11_feed_78 rfl (lv_at hl 2 rfl) ?_
  refine va_get (D := (dC, dI)) (ci := 11) (v := .ref ytape) (C := RX11) (T := TX11) (N := 61) hx hb hts hin11 hown hK hP 0 rfl rfl 14 (by decide) (hts (.fieldLink RX11 66 "PathProberModel" "tape" "[I") (List.mem_of_getElem? (i := 3) (by decide +kernel))) (fun _ h9 => h9) rfl dX11_feed_79 ?_
  refine lv_aload_n hx hb dX11_feed_82 rfl (lv_at hl 2 rfl) ?_
  refine va_get (D := (dC, dI)) (ci := 11) (v := .int 2) (C := RX11) (T := TX11) (N := 61) hx hb hts hin11 hown hK hP 0 rfl rfl 15 (by decide) (hts (.fieldLink RX11 145 "PathProberModel" "taped" "I") (List.mem_of_getElem? (i := 2) (by decide +kernel))) (fun _ h9 => h9) rfl dX11_feed_83 ?_
  refine lv_iload hx hb dX11_feed_86 (lv_at hl 0 rfl) ?_
  refine lv_bipush (v := 24) hx hb dX11_feed_88 (by decide) ?_
  refine lv_bipush (v := 8) hx hb dX11_feed_90 (by decide) ?_
  refine lv_iload hx hb dX11_feed_92 (lv_at hl 1 rfl) ?_
  refine lv_iconst (v := 4) hx hb dX11_feed_94 (by decide) ?_
  refine lv_irem hx hb dX11_feed_95 (by decide) ?_
  refine lv_topi (fun z21 e22 => ?_)
  obtain rfl : z21 = (2 : Int32) := e22.trans (by decide)
  refine lv_imul hx hb dX11_feed_96 ?_
  refine lv_topi (fun z23 e24 => ?_)
  obtain rfl : z23 = (16 : Int32) := e24.trans (by decide)
  refine lv_isub hx hb dX11_feed_97 ?_
  refine lv_topi (fun z25 e26 => ?_)
  obtain rfl : z25 = (8 : Int32) := e26.trans (by decide)
  refine lv_ishr hx hb dX11_feed_98 ?_
  refine lv_sipush (v := 255) hx hb dX11_feed_99 (by decide) ?_
  refine lv_iand hx hb dX11_feed_102 ?_
  refine va_iast hx hb hK hP hD hS 1 1 rfl rfl (vp_in_nI (n := 2) (by decide) (by decide)) dX11_feed_103 (fun H locs hP hD hS => ?_)
  have hP : va_P (dC, dI) vwCl [(m0, .inr (11, [.ref ywords, .ref ykinds, .int 0, .ref ytold, .ref ykind, .ref ysalt, .ref ypace, .ref ymute, .ref ylate, .ref yfrom, .ref yto, .ref ygoal, .ref ynow, .ref ystatus, .ref ytape, .int 2, .int 0, .int 0, .int 0, .int 0, .int 0, .int 0, .int 0, .int 0, .int (-1), .ref yreach, .int (-1), .int 0, .int 0, .int 0, .int 0, .int 0, .ref ymet, .int 0, .ref ypast, .ref yisAt, .ref ywaysTo, .ref ywide, .ref ydiamondFrom, .ref ydiamondTo, .int 0, .int 0, .int 0, .int 0, .ref ynotedPort, .ref ynotedGoal, .ref ynotedHop, .ref ynotedAddress, .ref yfitting, .int 0, .ref yrowThen, .int 0, .int 0, .int 0, .ref yimageRow, .ref ypastThen, .ref ynotedPortThen, .ref ynotedGoalThen, .ref ynotedHopThen, .ref ynotedAddressThen, .ref ystatusThen])), (ytape, .inl (kI, 700, .inl (upd f18 2 ((p0 >>> ((8 : Int32) &&& 31)) &&& 255))))] H := hP
  have hD : va_D A [(m0, .inr (11, [.ref ywords, .ref ykinds, .int 0, .ref ytold, .ref ykind, .ref ysalt, .ref ypace, .ref ymute, .ref ylate, .ref yfrom, .ref yto, .ref ygoal, .ref ynow, .ref ystatus, .ref ytape, .int 2, .int 0, .int 0, .int 0, .int 0, .int 0, .int 0, .int 0, .int 0, .int (-1), .ref yreach, .int (-1), .int 0, .int 0, .int 0, .int 0, .int 0, .ref ymet, .int 0, .ref ypast, .ref yisAt, .ref ywaysTo, .ref ywide, .ref ydiamondFrom, .ref ydiamondTo, .int 0, .int 0, .int 0, .int 0, .ref ynotedPort, .ref ynotedGoal, .ref ynotedHop, .ref ynotedAddress, .ref yfitting, .int 0, .ref yrowThen, .int 0, .int 0, .int 0, .ref yimageRow, .ref ypastThen, .ref ynotedPortThen, .ref ynotedGoalThen, .ref ynotedHopThen, .ref ynotedAddressThen, .ref ystatusThen])), (ytape, .inl (kI, 700, .inl (upd f18 2 ((p0 >>> ((8 : Int32) &&& 31)) &&& 255))))] := hD
  generalize (upd f18 2 ((p0 >>> ((8 : Int32) &&& 31)) &&& 255)) = f27 at hP hD
  refine lv_aload_n hx hb dX11_feed_104 rfl (lv_at hl 2 rfl) ?_
  refine lv_dup hx hb dX11_feed_105 rfl ?_
  refine va_get (D := (dC, dI)) (ci := 11) (v := .int 2) (C := RX11) (T := TX11) (N := 61) hx hb hts hin11 hown hK hP 0 rfl rfl 15 (by decide) (hts (.fieldLink RX11 145 "PathProberModel" "taped" "I") (List.mem_of_getElem? (i := 2) (by decide +kernel))) (fun _ h9 => h9) rfl dX11_feed_106 ?_
  refine lv_iconst (v := 1) hx hb dX11_feed_109 (by decide) ?_
  refine lv_iadd hx hb dX11_feed_110 ?_
  refine lv_topi (fun z28 e29 => ?_)
  obtain rfl : z28 = (3 : Int32) := e29.trans (by decide)
  refine va_put (D := (dC, dI)) (ci := 11) (v := .int 3) (ty := .int) (C := RX11) (T := TX11) (N := 61) hx hb hts hin11 tyX11 tyX11_ok nmX11 hown hK hP hD hS 0 rfl rfl 15 (by decide) (hts (.fieldLink RX11 145 "PathProberModel" "taped" "I") (List.mem_of_getElem? (i := 2) (by decide +kernel))) (fun _ h9 => h9) rfl (by decide +kernel) rfl rfl (Nat.le_of_ble_eq_true rfl) dX11_feed_111 (fun H locs hP hD hS => ?_)
  have hP : va_P (dC, dI) vwCl [(m0, .inr (11, [.ref ywords, .ref ykinds, .int 0, .ref ytold, .ref ykind, .ref ysalt, .ref ypace, .ref ymute, .ref ylate, .ref yfrom, .ref yto, .ref ygoal, .ref ynow, .ref ystatus, .ref ytape, .int 3, .int 0, .int 0, .int 0, .int 0, .int 0, .int 0, .int 0, .int 0, .int (-1), .ref yreach, .int (-1), .int 0, .int 0, .int 0, .int 0, .int 0, .ref ymet, .int 0, .ref ypast, .ref yisAt, .ref ywaysTo, .ref ywide, .ref ydiamondFrom, .ref ydiamondTo, .int 0, .int 0, .int 0, .int 0, .ref ynotedPort, .ref ynotedGoal, .ref ynotedHop, .ref ynotedAddress, .ref yfitting, .int 0, .ref yrowThen, .int 0, .int 0, .int 0, .ref yimageRow, .ref ypastThen, .ref ynotedPortThen, .ref ynotedGoalThen, .ref ynotedHopThen, .ref ynotedAddressThen, .ref ystatusThen])), (ytape, .inl (kI, 700, .inl f27))] H := hP
  have hD : va_D A [(m0, .inr (11, [.ref ywords, .ref ykinds, .int 0, .ref ytold, .ref ykind, .ref ysalt, .ref ypace, .ref ymute, .ref ylate, .ref yfrom, .ref yto, .ref ygoal, .ref ynow, .ref ystatus, .ref ytape, .int 3, .int 0, .int 0, .int 0, .int 0, .int 0, .int 0, .int 0, .int 0, .int (-1), .ref yreach, .int (-1), .int 0, .int 0, .int 0, .int 0, .int 0, .ref ymet, .int 0, .ref ypast, .ref yisAt, .ref ywaysTo, .ref ywide, .ref ydiamondFrom, .ref ydiamondTo, .int 0, .int 0, .int 0, .int 0, .ref ynotedPort, .ref ynotedGoal, .ref ynotedHop, .ref ynotedAddress, .ref yfitting, .int 0, .ref yrowThen, .int 0, .int 0, .int 0, .ref yimageRow, .ref ypastThen, .ref ynotedPortThen, .ref ynotedGoalThen, .ref ynotedHopThen, .ref ynotedAddressThen, .ref ystatusThen])), (ytape, .inl (kI, 700, .inl f27))] := hD
  refine lv_iinc (v := 3) (lv' := [(6, .int 3), (7, .int p0), (0, .ref m0), (1, .int p0), (2, .int p1), (3, .int p2), (4, .int p3), (5, .int p4)]) hx hb dX11_feed_114 hl (k := 1) rfl (by decide) (by decide) rfl (fun ls hl => ?_)
  refine lv_goto (tgt := 23) hx hb dX11_feed_117 (by decide) ?_
  refine lv_iload hx hb dX11_feed_23 (lv_at hl 0 rfl) ?_
  refine lv_bipush (v := 20) hx hb dX11_feed_25 (by decide) ?_
  refine lv_icmp_ge (tgt := 120) hx hb dX11_feed_27 (by decide) (fun c9 => absurd c9 (by decide)) (fun _ => ?_)
  refine lv_iload hx hb dX11_feed_30 (lv_at hl 0 rfl) ?_
  refine lv_iconst (v := 4) hx hb dX11_feed_32 (by decide) ?_
  refine lv_icmp_ge (tgt := 40) hx hb dX11_feed_33 (by decide) (fun c9 => absurd c9 (by decide)) (fun _ => ?_)
  refine lv_iload_n hx hb dX11_feed_36 rfl (lv_at hl 3 rfl) ?_
  refine lv_goto (tgt := 76) hx hb dX11_feed_37 (by decide) ?_
  refine lv_istore (lv' := [(7, .int p0), (6, .int 3), (0, .ref m0), (1, .int p0), (2, .int p1), (3, .int p2), (4, .int p3), (5, .int p4)]) hx hb dX11_feed_76 hl (by decide) rfl (fun ls hl => ?_)
  refine lv_aload_n hx hb dX11_feed_78 rfl (lv_at hl 2 rfl) ?_
  refine va_get (D := (dC, dI)) (ci := 11) (v := .ref ytape) (C := RX11) (T := TX11) (N := 61) hx hb hts hin11 hown hK hP 0 rfl rfl 14 (by decide) (hts (.fieldLink RX11 66 "PathProberModel" "tape" "[I") (List.mem_of_getElem? (i := 3) (by decide +kernel))) (fun _ h9 => h9) rfl dX11_feed_79 ?_
  refine lv_aload_n hx hb dX11_feed_82 rfl (lv_at hl 2 rfl) ?_
  refine va_get (D := (dC, dI)) (ci := 11) (v := .int 3) (C := RX11) (T := TX11) (N := 61) hx hb hts hin11 hown hK hP 0 rfl rfl 15 (by decide) (hts (.fieldLink RX11 145 "PathProberModel" "taped" "I") (List.mem_of_getElem? (i := 2) (by decide +kernel))) (fun _ h9 => h9) rfl dX11_feed_83 ?_
  refine lv_iload hx hb dX11_feed_86 (lv_at hl 0 rfl) ?_
  refine lv_bipush (v := 24) hx hb dX11_feed_88 (by decide) ?_
  refine lv_bipush (v := 8) hx hb dX11_feed_90 (by decide) ?_
  refine lv_iload hx hb dX11_feed_92 (lv_at hl 1 rfl) ?_
  refine lv_iconst (v := 4) hx hb dX11_feed_94 (by decide) ?_
  refine lv_irem hx hb dX11_feed_95 (by decide) ?_
  refine lv_topi (fun z30 e31 => ?_)
  obtain rfl : z30 = (3 : Int32) := e31.trans (by decide)
  refine lv_imul hx hb dX11_feed_96 ?_
  refine lv_topi (fun z32 e33 => ?_)
  obtain rfl : z32 = (24 : Int32) := e33.trans (by decide)
  refine lv_isub hx hb dX11_feed_97 ?_
  refine lv_topi (fun z34 e35 => ?_)
  obtain rfl : z34 = (0 : Int32) := e35.trans (by decide)
  refine lv_ishr hx hb dX11_feed_98 ?_
  refine lv_sipush (v := 255) hx hb dX11_feed_99 (by decide) ?_
  refine lv_iand hx hb dX11_feed_102 ?_
  refine va_iast hx hb hK hP hD hS 1 1 rfl rfl (vp_in_nI (n := 3) (by decide) (by decide)) dX11_feed_103 (fun H locs hP hD hS => ?_)
  have hP : va_P (dC, dI) vwCl [(m0, .inr (11, [.ref ywords, .ref ykinds, .int 0, .ref ytold, .ref ykind, .ref ysalt, .ref ypace, .ref ymute, .ref ylate, .ref yfrom, .ref yto, .ref ygoal, .ref ynow, .ref ystatus, .ref ytape, .int 3, .int 0, .int 0, .int 0, .int 0, .int 0, .int 0, .int 0, .int 0, .int (-1), .ref yreach, .int (-1), .int 0, .int 0, .int 0, .int 0, .int 0, .ref ymet, .int 0, .ref ypast, .ref yisAt, .ref ywaysTo, .ref ywide, .ref ydiamondFrom, .ref ydiamondTo, .int 0, .int 0, .int 0, .int 0, .ref ynotedPort, .ref ynotedGoal, .ref ynotedHop, .ref ynotedAddress, .ref yfitting, .int 0, .ref yrowThen, .int 0, .int 0, .int 0, .ref yimageRow, .ref ypastThen, .ref ynotedPortThen, .ref ynotedGoalThen, .ref ynotedHopThen, .ref ynotedAddressThen, .ref ystatusThen])), (ytape, .inl (kI, 700, .inl (upd f27 3 ((p0 >>> ((0 : Int32) &&& 31)) &&& 255))))] H := hP
  have hD : va_D A [(m0, .inr (11, [.ref ywords, .ref ykinds, .int 0, .ref ytold, .ref ykind, .ref ysalt, .ref ypace, .ref ymute, .ref ylate, .ref yfrom, .ref yto, .ref ygoal, .ref ynow, .ref ystatus, .ref ytape, .int 3, .int 0, .int 0, .int 0, .int 0, .int 0, .int 0, .int 0, .int 0, .int (-1), .ref yreach, .int (-1), .int 0, .int 0, .int 0, .int 0, .int 0, .ref ymet, .int 0, .ref ypast, .ref yisAt, .ref ywaysTo, .ref ywide, .ref ydiamondFrom, .ref ydiamondTo, .int 0, .int 0, .int 0, .int 0, .ref ynotedPort, .ref ynotedGoal, .ref ynotedHop, .ref ynotedAddress, .ref yfitting, .int 0, .ref yrowThen, .int 0, .int 0, .int 0, .ref yimageRow, .ref ypastThen, .ref ynotedPortThen, .ref ynotedGoalThen, .ref ynotedHopThen, .ref ynotedAddressThen, .ref ystatusThen])), (ytape, .inl (kI, 700, .inl (upd f27 3 ((p0 >>> ((0 : Int32) &&& 31)) &&& 255))))] := hD
  generalize (upd f27 3 ((p0 >>> ((0 : Int32) &&& 31)) &&& 255)) = f36 at hP hD
  refine lv_aload_n hx hb dX11_feed_104 rfl (lv_at hl 2 rfl) ?_
  refine lv_dup hx hb dX11_feed_105 rfl ?_
  refine va_get (D := (dC, dI)) (ci := 11) (v := .int 3) (C := RX11) (T := TX11) (N := 61) hx hb hts hin11 hown hK hP 0 rfl rfl 15 (by decide) (hts (.fieldLink RX11 145 "PathProberModel" "taped" "I") (List.mem_of_getElem? (i := 2) (by decide +kernel))) (fun _ h9 => h9) rfl dX11_feed_106 ?_
  refine lv_iconst (v := 1) hx hb dX11_feed_109 (by decide) ?_
  refine lv_iadd hx hb dX11_feed_110 ?_
  refine lv_topi (fun z37 e38 => ?_)
  obtain rfl : z37 = (4 : Int32) := e38.trans (by decide)
  refine va_put (D := (dC, dI)) (ci := 11) (v := .int 4) (ty := .int) (C := RX11) (T := TX11) (N := 61) hx hb hts hin11 tyX11 tyX11_ok nmX11 hown hK hP hD hS 0 rfl rfl 15 (by decide) (hts (.fieldLink RX11 145 "PathProberModel" "taped" "I") (List.mem_of_getElem? (i := 2) (by decide +kernel))) (fun _ h9 => h9) rfl (by decide +kernel) rfl rfl (Nat.le_of_ble_eq_true rfl) dX11_feed_111 (fun H locs hP hD hS => ?_)
  have hP : va_P (dC, dI) vwCl [(m0, .inr (11, [.ref ywords, .ref ykinds, .int 0, .ref ytold, .ref ykind, .ref ysalt, .ref ypace, .ref ymute, .ref ylate, .ref yfrom, .ref yto, .ref ygoal, .ref ynow, .ref ystatus, .ref ytape, .int 4, .int 0, .int 0, .int 0, .int 0, .int 0, .int 0, .int 0, .int 0, .int (-1), .ref yreach, .int (-1), .int 0, .int 0, .int 0, .int 0, .int 0, .ref ymet, .int 0, .ref ypast, .ref yisAt, .ref ywaysTo, .ref ywide, .ref ydiamondFrom, .ref ydiamondTo, .int 0, .int 0, .int 0, .int 0, .ref ynotedPort, .ref ynotedGoal, .ref ynotedHop, .ref ynotedAddress, .ref yfitting, .int 0, .ref yrowThen, .int 0, .int 0, .int 0, .ref yimageRow, .ref ypastThen, .ref ynotedPortThen, .ref ynotedGoalThen, .ref ynotedHopThen, .ref ynotedAddressThen, .ref ystatusThen])), (ytape, .inl (kI, 700, .inl f36))] H := hP
  have hD : va_D A [(m0, .inr (11, [.ref ywords, .ref ykinds, .int 0, .ref ytold, .ref ykind, .ref ysalt, .ref ypace, .ref ymute, .ref ylate, .ref yfrom, .ref yto, .ref ygoal, .ref ynow, .ref ystatus, .ref ytape, .int 4, .int 0, .int 0, .int 0, .int 0, .int 0, .int 0, .int 0, .int 0, .int (-1), .ref yreach, .int (-1), .int 0, .int 0, .int 0, .int 0, .int 0, .ref ymet, .int 0, .ref ypast, .ref yisAt, .ref ywaysTo, .ref ywide, .ref ydiamondFrom, .ref ydiamondTo, .int 0, .int 0, .int 0, .int 0, .ref ynotedPort, .ref ynotedGoal, .ref ynotedHop, .ref ynotedAddress, .ref yfitting, .int 0, .ref yrowThen, .int 0, .int 0, .int 0, .ref yimageRow, .ref ypastThen, .ref ynotedPortThen, .ref ynotedGoalThen, .ref ynotedHopThen, .ref ynotedAddressThen, .ref ystatusThen])), (ytape, .inl (kI, 700, .inl f36))] := hD
  refine lv_iinc (v := 4) (lv' := [(6, .int 4), (7, .int p0), (0, .ref m0), (1, .int p0), (2, .int p1), (3, .int p2), (4, .int p3), (5, .int p4)]) hx hb dX11_feed_114 hl (k := 1) rfl (by decide) (by decide) rfl (fun ls hl => ?_)
  refine lv_goto (tgt := 23) hx hb dX11_feed_117 (by decide) ?_
  refine lv_iload hx hb dX11_feed_23 (lv_at hl 0 rfl) ?_
  refine lv_bipush (v := 20) hx hb dX11_feed_25 (by decide) ?_
  refine lv_icmp_ge (tgt := 120) hx hb dX11_feed_27 (by decide) (fun c9 => absurd c9 (by decide)) (fun _ => ?_)
  refine lv_iload hx hb dX11_feed_30 (lv_at hl 0 rfl) ?_
  refine lv_iconst (v := 4) hx hb dX11_feed_32 (by decide) ?_
  refine lv_icmp_ge (tgt := 40) hx hb dX11_feed_33 (by decide) (fun _ => ?_) (fun c9 => absurd (by decide) c9)
  refine lv_iload hx hb dX11_feed_40 (lv_at hl 0 rfl) ?_
  refine lv_bipush (v := 8) hx hb dX11_feed_42 (by decide) ?_
  refine lv_icmp_ge (tgt := 51) hx hb dX11_feed_44 (by decide) (fun c9 => absurd c9 (by decide)) (fun _ => ?_)
  refine lv_iload_n hx hb dX11_feed_47 rfl (lv_at hl 4 rfl) ?_
  refine lv_goto (tgt := 76) hx hb dX11_feed_48 (by decide) ?_
  refine lv_istore (lv' := [(7, .int p1), (6, .int 4), (0, .ref m0), (1, .int p0), (2, .int p1), (3, .int p2), (4, .int p3), (5, .int p4)]) hx hb dX11_feed_76 hl (by decide) rfl (fun ls hl => ?_)
  refine lv_aload_n hx hb dX11_feed_78 rfl (lv_at hl 2 rfl) ?_
  refine va_get (D := (dC, dI)) (ci := 11) (v := .ref ytape) (C := RX11) (T := TX11) (N := 61) hx hb hts hin11 hown hK hP 0 rfl rfl 14 (by decide) (hts (.fieldLink RX11 66 "PathProberModel" "tape" "[I") (List.mem_of_getElem? (i := 3) (by decide +kernel))) (fun _ h9 => h9) rfl dX11_feed_79 ?_
  refine lv_aload_n hx hb dX11_feed_82 rfl (lv_at hl 2 rfl) ?_
  refine va_get (D := (dC, dI)) (ci := 11) (v := .int 4) (C := RX11) (T := TX11) (N := 61) hx hb hts hin11 hown hK hP 0 rfl rfl 15 (by decide) (hts (.fieldLink RX11 145 "PathProberModel" "taped" "I") (List.mem_of_getElem? (i := 2) (by decide +kernel))) (fun _ h9 => h9) rfl dX11_feed_83 ?_
  refine lv_iload hx hb dX11_feed_86 (lv_at hl 0 rfl) ?_
  refine lv_bipush (v := 24) hx hb dX11_feed_88 (by decide) ?_
  refine lv_bipush (v := 8) hx hb dX11_feed_90 (by decide) ?_
  refine lv_iload hx hb dX11_feed_92 (lv_at hl 1 rfl) ?_
  refine lv_iconst (v := 4) hx hb dX11_feed_94 (by decide) ?_
  refine lv_irem hx hb dX11_feed_95 (by decide) ?_
  refine lv_topi (fun z39 e40 => ?_)
  obtain rfl : z39 = (0 : Int32) := e40.trans (by decide)
  refine lv_imul hx hb dX11_feed_96 ?_
  refine lv_topi (fun z41 e42 => ?_)
  obtain rfl : z41 = (0 : Int32) := e42.trans (by decide)
  refine lv_isub hx hb dX11_feed_97 ?_
  refine lv_topi (fun z43 e44 => ?_)
  obtain rfl : z43 = (24 : Int32) := e44.trans (by decide)
  refine lv_ishr hx hb dX11_feed_98 ?_
  refine lv_sipush (v := 255) hx hb dX11_feed_99 (by decide) ?_
  refine lv_iand hx hb dX11_feed_102 ?_
  refine va_iast hx hb hK hP hD hS 1 1 rfl rfl (vp_in_nI (n := 4) (by decide) (by decide)) dX11_feed_103 (fun H locs hP hD hS => ?_)
  have hP : va_P (dC, dI) vwCl [(m0, .inr (11, [.ref ywords, .ref ykinds, .int 0, .ref ytold, .ref ykind, .ref ysalt, .ref ypace, .ref ymute, .ref ylate, .ref yfrom, .ref yto, .ref ygoal, .ref ynow, .ref ystatus, .ref ytape, .int 4, .int 0, .int 0, .int 0, .int 0, .int 0, .int 0, .int 0, .int 0, .int (-1), .ref yreach, .int (-1), .int 0, .int 0, .int 0, .int 0, .int 0, .ref ymet, .int 0, .ref ypast, .ref yisAt, .ref ywaysTo, .ref ywide, .ref ydiamondFrom, .ref ydiamondTo, .int 0, .int 0, .int 0, .int 0, .ref ynotedPort, .ref ynotedGoal, .ref ynotedHop, .ref ynotedAddress, .ref yfitting, .int 0, .ref yrowThen, .int 0, .int 0, .int 0, .ref yimageRow, .ref ypastThen, .ref ynotedPortThen, .ref ynotedGoalThen, .ref ynotedHopThen, .ref ynotedAddressThen, .ref ystatusThen])), (ytape, .inl (kI, 700, .inl (upd f36 4 ((p1 >>> ((24 : Int32) &&& 31)) &&& 255))))] H := hP
  have hD : va_D A [(m0, .inr (11, [.ref ywords, .ref ykinds, .int 0, .ref ytold, .ref ykind, .ref ysalt, .ref ypace, .ref ymute, .ref ylate, .ref yfrom, .ref yto, .ref ygoal, .ref ynow, .ref ystatus, .ref ytape, .int 4, .int 0, .int 0, .int 0, .int 0, .int 0, .int 0, .int 0, .int 0, .int (-1), .ref yreach, .int (-1), .int 0, .int 0, .int 0, .int 0, .int 0, .ref ymet, .int 0, .ref ypast, .ref yisAt, .ref ywaysTo, .ref ywide, .ref ydiamondFrom, .ref ydiamondTo, .int 0, .int 0, .int 0, .int 0, .ref ynotedPort, .ref ynotedGoal, .ref ynotedHop, .ref ynotedAddress, .ref yfitting, .int 0, .ref yrowThen, .int 0, .int 0, .int 0, .ref yimageRow, .ref ypastThen, .ref ynotedPortThen, .ref ynotedGoalThen, .ref ynotedHopThen, .ref ynotedAddressThen, .ref ystatusThen])), (ytape, .inl (kI, 700, .inl (upd f36 4 ((p1 >>> ((24 : Int32) &&& 31)) &&& 255))))] := hD
  generalize (upd f36 4 ((p1 >>> ((24 : Int32) &&& 31)) &&& 255)) = f45 at hP hD
  refine lv_aload_n hx hb dX11_feed_104 rfl (lv_at hl 2 rfl) ?_
  refine lv_dup hx hb dX11_feed_105 rfl ?_
  refine va_get (D := (dC, dI)) (ci := 11) (v := .int 4) (C := RX11) (T := TX11) (N := 61) hx hb hts hin11 hown hK hP 0 rfl rfl 15 (by decide) (hts (.fieldLink RX11 145 "PathProberModel" "taped" "I") (List.mem_of_getElem? (i := 2) (by decide +kernel))) (fun _ h9 => h9) rfl dX11_feed_106 ?_
  refine lv_iconst (v := 1) hx hb dX11_feed_109 (by decide) ?_
  refine lv_iadd hx hb dX11_feed_110 ?_
  refine lv_topi (fun z46 e47 => ?_)
  obtain rfl : z46 = (5 : Int32) := e47.trans (by decide)
  refine va_put (D := (dC, dI)) (ci := 11) (v := .int 5) (ty := .int) (C := RX11) (T := TX11) (N := 61) hx hb hts hin11 tyX11 tyX11_ok nmX11 hown hK hP hD hS 0 rfl rfl 15 (by decide) (hts (.fieldLink RX11 145 "PathProberModel" "taped" "I") (List.mem_of_getElem? (i := 2) (by decide +kernel))) (fun _ h9 => h9) rfl (by decide +kernel) rfl rfl (Nat.le_of_ble_eq_true rfl) dX11_feed_111 (fun H locs hP hD hS => ?_)
  have hP : va_P (dC, dI) vwCl [(m0, .inr (11, [.ref ywords, .ref ykinds, .int 0, .ref ytold, .ref ykind, .ref ysalt, .ref ypace, .ref ymute, .ref ylate, .ref yfrom, .ref yto, .ref ygoal, .ref ynow, .ref ystatus, .ref ytape, .int 5, .int 0, .int 0, .int 0, .int 0, .int 0, .int 0, .int 0, .int 0, .int (-1), .ref yreach, .int (-1), .int 0, .int 0, .int 0, .int 0, .int 0, .ref ymet, .int 0, .ref ypast, .ref yisAt, .ref ywaysTo, .ref ywide, .ref ydiamondFrom, .ref ydiamondTo, .int 0, .int 0, .int 0, .int 0, .ref ynotedPort, .ref ynotedGoal, .ref ynotedHop, .ref ynotedAddress, .ref yfitting, .int 0, .ref yrowThen, .int 0, .int 0, .int 0, .ref yimageRow, .ref ypastThen, .ref ynotedPortThen, .ref ynotedGoalThen, .ref ynotedHopThen, .ref ynotedAddressThen, .ref ystatusThen])), (ytape, .inl (kI, 700, .inl f45))] H := hP
  have hD : va_D A [(m0, .inr (11, [.ref ywords, .ref ykinds, .int 0, .ref ytold, .ref ykind, .ref ysalt, .ref ypace, .ref ymute, .ref ylate, .ref yfrom, .ref yto, .ref ygoal, .ref ynow, .ref ystatus, .ref ytape, .int 5, .int 0, .int 0, .int 0, .int 0, .int 0, .int 0, .int 0, .int 0, .int (-1), .ref yreach, .int (-1), .int 0, .int 0, .int 0, .int 0, .int 0, .ref ymet, .int 0, .ref ypast, .ref yisAt, .ref ywaysTo, .ref ywide, .ref ydiamondFrom, .ref ydiamondTo, .int 0, .int 0, .int 0, .int 0, .ref ynotedPort, .ref ynotedGoal, .ref ynotedHop, .ref ynotedAddress, .ref yfitting, .int 0, .ref yrowThen, .int 0, .int 0, .int 0, .ref yimageRow, .ref ypastThen, .ref ynotedPortThen, .ref ynotedGoalThen, .ref ynotedHopThen, .ref ynotedAddressThen, .ref ystatusThen])), (ytape, .inl (kI, 700, .inl f45))] := hD
  refine lv_iinc (v := 5) (lv' := [(6, .int 5), (7, .int p1), (0, .ref m0), (1, .int p0), (2, .int p1), (3, .int p2), (4, .int p3), (5, .int p4)]) hx hb dX11_feed_114 hl (k := 1) rfl (by decide) (by decide) rfl (fun ls hl => ?_)
  refine lv_goto (tgt := 23) hx hb dX11_feed_117 (by decide) ?_
  refine lv_iload hx hb dX11_feed_23 (lv_at hl 0 rfl) ?_
  refine lv_bipush (v := 20) hx hb dX11_feed_25 (by decide) ?_
  refine lv_icmp_ge (tgt := 120) hx hb dX11_feed_27 (by decide) (fun c9 => absurd c9 (by decide)) (fun _ => ?_)
  refine lv_iload hx hb dX11_feed_30 (lv_at hl 0 rfl) ?_
  refine lv_iconst (v := 4) hx hb dX11_feed_32 (by decide) ?_
  refine lv_icmp_ge (tgt := 40) hx hb dX11_feed_33 (by decide) (fun _ => ?_) (fun c9 => absurd (by decide) c9)
  refine lv_iload hx hb dX11_feed_40 (lv_at hl 0 rfl) ?_
  refine lv_bipush (v := 8) hx hb dX11_feed_42 (by decide) ?_
  refine lv_icmp_ge (tgt := 51) hx hb dX11_feed_44 (by decide) (fun c9 => absurd c9 (by decide)) (fun _ => ?_)
  refine lv_iload_n hx hb dX11_feed_47 rfl (lv_at hl 4 rfl) ?_
  refine lv_goto (tgt := 76) hx hb dX11_feed_48 (by decide) ?_
  refine lv_istore (lv' := [(7, .int p1), (6, .int 5), (0, .ref m0), (1, .int p0), (2, .int p1), (3, .int p2), (4, .int p3), (5, .int p4)]) hx hb dX11_feed_76 hl (by decide) rfl (fun ls hl => ?_)
  refine lv_aload_n hx hb dX11_feed_78 rfl (lv_at hl 2 rfl) ?_
  refine va_get (D := (dC, dI)) (ci := 11) (v := .ref ytape) (C := RX11) (T := TX11) (N := 61) hx hb hts hin11 hown hK hP 0 rfl rfl 14 (by decide) (hts (.fieldLink RX11 66 "PathProberModel" "tape" "[I") (List.mem_of_getElem? (i := 3) (by decide +kernel))) (fun _ h9 => h9) rfl dX11_feed_79 ?_
  refine lv_aload_n hx hb dX11_feed_82 rfl (lv_at hl 2 rfl) ?_
  refine va_get (D := (dC, dI)) (ci := 11) (v := .int 5) (C := RX11) (T := TX11) (N := 61) hx hb hts hin11 hown hK hP 0 rfl rfl 15 (by decide) (hts (.fieldLink RX11 145 "PathProberModel" "taped" "I") (List.mem_of_getElem? (i := 2) (by decide +kernel))) (fun _ h9 => h9) rfl dX11_feed_83 ?_
  refine lv_iload hx hb dX11_feed_86 (lv_at hl 0 rfl) ?_
  refine lv_bipush (v := 24) hx hb dX11_feed_88 (by decide) ?_
  refine lv_bipush (v := 8) hx hb dX11_feed_90 (by decide) ?_
  refine lv_iload hx hb dX11_feed_92 (lv_at hl 1 rfl) ?_
  refine lv_iconst (v := 4) hx hb dX11_feed_94 (by decide) ?_
  refine lv_irem hx hb dX11_feed_95 (by decide) ?_
  refine lv_topi (fun z48 e49 => ?_)
  obtain rfl : z48 = (1 : Int32) := e49.trans (by decide)
  refine lv_imul hx hb dX11_feed_96 ?_
  refine lv_topi (fun z50 e51 => ?_)
  obtain rfl : z50 = (8 : Int32) := e51.trans (by decide)
  refine lv_isub hx hb dX11_feed_97 ?_
  refine lv_topi (fun z52 e53 => ?_)
  obtain rfl : z52 = (16 : Int32) := e53.trans (by decide)
  refine lv_ishr hx hb dX11_feed_98 ?_
  refine lv_sipush (v := 255) hx hb dX11_feed_99 (by decide) ?_
  refine lv_iand hx hb dX11_feed_102 ?_
  refine va_iast hx hb hK hP hD hS 1 1 rfl rfl (vp_in_nI (n := 5) (by decide) (by decide)) dX11_feed_103 (fun H locs hP hD hS => ?_)
  have hP : va_P (dC, dI) vwCl [(m0, .inr (11, [.ref ywords, .ref ykinds, .int 0, .ref ytold, .ref ykind, .ref ysalt, .ref ypace, .ref ymute, .ref ylate, .ref yfrom, .ref yto, .ref ygoal, .ref ynow, .ref ystatus, .ref ytape, .int 5, .int 0, .int 0, .int 0, .int 0, .int 0, .int 0, .int 0, .int 0, .int (-1), .ref yreach, .int (-1), .int 0, .int 0, .int 0, .int 0, .int 0, .ref ymet, .int 0, .ref ypast, .ref yisAt, .ref ywaysTo, .ref ywide, .ref ydiamondFrom, .ref ydiamondTo, .int 0, .int 0, .int 0, .int 0, .ref ynotedPort, .ref ynotedGoal, .ref ynotedHop, .ref ynotedAddress, .ref yfitting, .int 0, .ref yrowThen, .int 0, .int 0, .int 0, .ref yimageRow, .ref ypastThen, .ref ynotedPortThen, .ref ynotedGoalThen, .ref ynotedHopThen, .ref ynotedAddressThen, .ref ystatusThen])), (ytape, .inl (kI, 700, .inl (upd f45 5 ((p1 >>> ((16 : Int32) &&& 31)) &&& 255))))] H := hP
  have hD : va_D A [(m0, .inr (11, [.ref ywords, .ref ykinds, .int 0, .ref ytold, .ref ykind, .ref ysalt, .ref ypace, .ref ymute, .ref ylate, .ref yfrom, .ref yto, .ref ygoal, .ref ynow, .ref ystatus, .ref ytape, .int 5, .int 0, .int 0, .int 0, .int 0, .int 0, .int 0, .int 0, .int 0, .int (-1), .ref yreach, .int (-1), .int 0, .int 0, .int 0, .int 0, .int 0, .ref ymet, .int 0, .ref ypast, .ref yisAt, .ref ywaysTo, .ref ywide, .ref ydiamondFrom, .ref ydiamondTo, .int 0, .int 0, .int 0, .int 0, .ref ynotedPort, .ref ynotedGoal, .ref ynotedHop, .ref ynotedAddress, .ref yfitting, .int 0, .ref yrowThen, .int 0, .int 0, .int 0, .ref yimageRow, .ref ypastThen, .ref ynotedPortThen, .ref ynotedGoalThen, .ref ynotedHopThen, .ref ynotedAddressThen, .ref ystatusThen])), (ytape, .inl (kI, 700, .inl (upd f45 5 ((p1 >>> ((16 : Int32) &&& 31)) &&& 255))))] := hD
  generalize (upd f45 5 ((p1 >>> ((16 : Int32) &&& 31)) &&& 255)) = f54 at hP hD
  refine lv_aload_n hx hb dX11_feed_104 rfl (lv_at hl 2 rfl) ?_
  refine lv_dup hx hb dX11_feed_105 rfl ?_
  refine va_get (D := (dC, dI)) (ci := 11) (v := .int 5) (C := RX11) (T := TX11) (N := 61) hx hb hts hin11 hown hK hP 0 rfl rfl 15 (by decide) (hts (.fieldLink RX11 145 "PathProberModel" "taped" "I") (List.mem_of_getElem? (i := 2) (by decide +kernel))) (fun _ h9 => h9) rfl dX11_feed_106 ?_
  refine lv_iconst (v := 1) hx hb dX11_feed_109 (by decide) ?_
  refine lv_iadd hx hb dX11_feed_110 ?_
  refine lv_topi (fun z55 e56 => ?_)
  obtain rfl : z55 = (6 : Int32) := e56.trans (by decide)
  refine va_put (D := (dC, dI)) (ci := 11) (v := .int 6) (ty := .int) (C := RX11) (T := TX11) (N := 61) hx hb hts hin11 tyX11 tyX11_ok nmX11 hown hK hP hD hS 0 rfl rfl 15 (by decide) (hts (.fieldLink RX11 145 "PathProberModel" "taped" "I") (List.mem_of_getElem? (i := 2) (by decide +kernel))) (fun _ h9 => h9) rfl (by decide +kernel) rfl rfl (Nat.le_of_ble_eq_true rfl) dX11_feed_111 (fun H locs hP hD hS => ?_)
  have hP : va_P (dC, dI) vwCl [(m0, .inr (11, [.ref ywords, .ref ykinds, .int 0, .ref ytold, .ref ykind, .ref ysalt, .ref ypace, .ref ymute, .ref ylate, .ref yfrom, .ref yto, .ref ygoal, .ref ynow, .ref ystatus, .ref ytape, .int 6, .int 0, .int 0, .int 0, .int 0, .int 0, .int 0, .int 0, .int 0, .int (-1), .ref yreach, .int (-1), .int 0, .int 0, .int 0, .int 0, .int 0, .ref ymet, .int 0, .ref ypast, .ref yisAt, .ref ywaysTo, .ref ywide, .ref ydiamondFrom, .ref ydiamondTo, .int 0, .int 0, .int 0, .int 0, .ref ynotedPort, .ref ynotedGoal, .ref ynotedHop, .ref ynotedAddress, .ref yfitting, .int 0, .ref yrowThen, .int 0, .int 0, .int 0, .ref yimageRow, .ref ypastThen, .ref ynotedPortThen, .ref ynotedGoalThen, .ref ynotedHopThen, .ref ynotedAddressThen, .ref ystatusThen])), (ytape, .inl (kI, 700, .inl f54))] H := hP
  have hD : va_D A [(m0, .inr (11, [.ref ywords, .ref ykinds, .int 0, .ref ytold, .ref ykind, .ref ysalt, .ref ypace, .ref ymute, .ref ylate, .ref yfrom, .ref yto, .ref ygoal, .ref ynow, .ref ystatus, .ref ytape, .int 6, .int 0, .int 0, .int 0, .int 0, .int 0, .int 0, .int 0, .int 0, .int (-1), .ref yreach, .int (-1), .int 0, .int 0, .int 0, .int 0, .int 0, .ref ymet, .int 0, .ref ypast, .ref yisAt, .ref ywaysTo, .ref ywide, .ref ydiamondFrom, .ref ydiamondTo, .int 0, .int 0, .int 0, .int 0, .ref ynotedPort, .ref ynotedGoal, .ref ynotedHop, .ref ynotedAddress, .ref yfitting, .int 0, .ref yrowThen, .int 0, .int 0, .int 0, .ref yimageRow, .ref ypastThen, .ref ynotedPortThen, .ref ynotedGoalThen, .ref ynotedHopThen, .ref ynotedAddressThen, .ref ystatusThen])), (ytape, .inl (kI, 700, .inl f54))] := hD
  refine lv_iinc (v := 6) (lv' := [(6, .int 6), (7, .int p1), (0, .ref m0), (1, .int p0), (2, .int p1), (3, .int p2), (4, .int p3), (5, .int p4)]) hx hb dX11_feed_114 hl (k := 1) rfl (by decide) (by decide) rfl (fun ls hl => ?_)
  refine lv_goto (tgt := 23) hx hb dX11_feed_117 (by decide) ?_
  refine lv_iload hx hb dX11_feed_23 (lv_at hl 0 rfl) ?_
  refine lv_bipush (v := 20) hx hb dX11_feed_25 (by decide) ?_
  refine lv_icmp_ge (tgt := 120) hx hb dX11_feed_27 (by decide) (fun c9 => absurd c9 (by decide)) (fun _ => ?_)
  refine lv_iload hx hb dX11_feed_30 (lv_at hl 0 rfl) ?_
  refine lv_iconst (v := 4) hx hb dX11_feed_32 (by decide) ?_
  refine lv_icmp_ge (tgt := 40) hx hb dX11_feed_33 (by decide) (fun _ => ?_) (fun c9 => absurd (by decide) c9)
  refine lv_iload hx hb dX11_feed_40 (lv_at hl 0 rfl) ?_
  refine lv_bipush (v := 8) hx hb dX11_feed_42 (by decide) ?_
  refine lv_icmp_ge (tgt := 51) hx hb dX11_feed_44 (by decide) (fun c9 => absurd c9 (by decide)) (fun _ => ?_)
  refine lv_iload_n hx hb dX11_feed_47 rfl (lv_at hl 4 rfl) ?_
  refine lv_goto (tgt := 76) hx hb dX11_feed_48 (by decide) ?_
  refine lv_istore (lv' := [(7, .int p1), (6, .int 6), (0, .ref m0), (1, .int p0), (2, .int p1), (3, .int p2), (4, .int p3), (5, .int p4)]) hx hb dX11_feed_76 hl (by decide) rfl (fun ls hl => ?_)
  refine lv_aload_n hx hb dX11_feed_78 rfl (lv_at hl 2 rfl) ?_
  refine va_get (D := (dC, dI)) (ci := 11) (v := .ref ytape) (C := RX11) (T := TX11) (N := 61) hx hb hts hin11 hown hK hP 0 rfl rfl 14 (by decide) (hts (.fieldLink RX11 66 "PathProberModel" "tape" "[I") (List.mem_of_getElem? (i := 3) (by decide +kernel))) (fun _ h9 => h9) rfl dX11_feed_79 ?_
  refine lv_aload_n hx hb dX11_feed_82 rfl (lv_at hl 2 rfl) ?_
  refine va_get (D := (dC, dI)) (ci := 11) (v := .int 6) (C := RX11) (T := TX11) (N := 61) hx hb hts hin11 hown hK hP 0 rfl rfl 15 (by decide) (hts (.fieldLink RX11 145 "PathProberModel" "taped" "I") (List.mem_of_getElem? (i := 2) (by decide +kernel))) (fun _ h9 => h9) rfl dX11_feed_83 ?_
  refine lv_iload hx hb dX11_feed_86 (lv_at hl 0 rfl) ?_
  refine lv_bipush (v := 24) hx hb dX11_feed_88 (by decide) ?_
  refine lv_bipush (v := 8) hx hb dX11_feed_90 (by decide) ?_
  refine lv_iload hx hb dX11_feed_92 (lv_at hl 1 rfl) ?_
  refine lv_iconst (v := 4) hx hb dX11_feed_94 (by decide) ?_
  refine lv_irem hx hb dX11_feed_95 (by decide) ?_
  refine lv_topi (fun z57 e58 => ?_)
  obtain rfl : z57 = (2 : Int32) := e58.trans (by decide)
  refine lv_imul hx hb dX11_feed_96 ?_
  refine lv_topi (fun z59 e60 => ?_)
  obtain rfl : z59 = (16 : Int32) := e60.trans (by decide)
  refine lv_isub hx hb dX11_feed_97 ?_
  refine lv_topi (fun z61 e62 => ?_)
  obtain rfl : z61 = (8 : Int32) := e62.trans (by decide)
  refine lv_ishr hx hb dX11_feed_98 ?_
  refine lv_sipush (v := 255) hx hb dX11_feed_99 (by decide) ?_
  refine lv_iand hx hb dX11_feed_102 ?_
  refine va_iast hx hb hK hP hD hS 1 1 rfl rfl (vp_in_nI (n := 6) (by decide) (by decide)) dX11_feed_103 (fun H locs hP hD hS => ?_)
  have hP : va_P (dC, dI) vwCl [(m0, .inr (11, [.ref ywords, .ref ykinds, .int 0, .ref ytold, .ref ykind, .ref ysalt, .ref ypace, .ref ymute, .ref ylate, .ref yfrom, .ref yto, .ref ygoal, .ref ynow, .ref ystatus, .ref ytape, .int 6, .int 0, .int 0, .int 0, .int 0, .int 0, .int 0, .int 0, .int 0, .int (-1), .ref yreach, .int (-1), .int 0, .int 0, .int 0, .int 0, .int 0, .ref ymet, .int 0, .ref ypast, .ref yisAt, .ref ywaysTo, .ref ywide, .ref ydiamondFrom, .ref ydiamondTo, .int 0, .int 0, .int 0, .int 0, .ref ynotedPort, .ref ynotedGoal, .ref ynotedHop, .ref ynotedAddress, .ref yfitting, .int 0, .ref yrowThen, .int 0, .int 0, .int 0, .ref yimageRow, .ref ypastThen, .ref ynotedPortThen, .ref ynotedGoalThen, .ref ynotedHopThen, .ref ynotedAddressThen, .ref ystatusThen])), (ytape, .inl (kI, 700, .inl (upd f54 6 ((p1 >>> ((8 : Int32) &&& 31)) &&& 255))))] H := hP
  have hD : va_D A [(m0, .inr (11, [.ref ywords, .ref ykinds, .int 0, .ref ytold, .ref ykind, .ref ysalt, .ref ypace, .ref ymute, .ref ylate, .ref yfrom, .ref yto, .ref ygoal, .ref ynow, .ref ystatus, .ref ytape, .int 6, .int 0, .int 0, .int 0, .int 0, .int 0, .int 0, .int 0, .int 0, .int (-1), .ref yreach, .int (-1), .int 0, .int 0, .int 0, .int 0, .int 0, .ref ymet, .int 0, .ref ypast, .ref yisAt, .ref ywaysTo, .ref ywide, .ref ydiamondFrom, .ref ydiamondTo, .int 0, .int 0, .int 0, .int 0, .ref ynotedPort, .ref ynotedGoal, .ref ynotedHop, .ref ynotedAddress, .ref yfitting, .int 0, .ref yrowThen, .int 0, .int 0, .int 0, .ref yimageRow, .ref ypastThen, .ref ynotedPortThen, .ref ynotedGoalThen, .ref ynotedHopThen, .ref ynotedAddressThen, .ref ystatusThen])), (ytape, .inl (kI, 700, .inl (upd f54 6 ((p1 >>> ((8 : Int32) &&& 31)) &&& 255))))] := hD
  generalize (upd f54 6 ((p1 >>> ((8 : Int32) &&& 31)) &&& 255)) = f63 at hP hD
  refine lv_aload_n hx hb dX11_feed_104 rfl (lv_at hl 2 rfl) ?_
  refine lv_dup hx hb dX11_feed_105 rfl ?_
  refine va_get (D := (dC, dI)) (ci := 11) (v := .int 6) (C := RX11) (T := TX11) (N := 61) hx hb hts hin11 hown hK hP 0 rfl rfl 15 (by decide) (hts (.fieldLink RX11 145 "PathProberModel" "taped" "I") (List.mem_of_getElem? (i := 2) (by decide +kernel))) (fun _ h9 => h9) rfl dX11_feed_106 ?_
  refine lv_iconst (v := 1) hx hb dX11_feed_109 (by decide) ?_
  refine lv_iadd hx hb dX11_feed_110 ?_
  refine lv_topi (fun z64 e65 => ?_)
  obtain rfl : z64 = (7 : Int32) := e65.trans (by decide)
  refine va_put (D := (dC, dI)) (ci := 11) (v := .int 7) (ty := .int) (C := RX11) (T := TX11) (N := 61) hx hb hts hin11 tyX11 tyX11_ok nmX11 hown hK hP hD hS 0 rfl rfl 15 (by decide) (hts (.fieldLink RX11 145 "PathProberModel" "taped" "I") (List.mem_of_getElem? (i := 2) (by decide +kernel))) (fun _ h9 => h9) rfl (by decide +kernel) rfl rfl (Nat.le_of_ble_eq_true rfl) dX11_feed_111 (fun H locs hP hD hS => ?_)
  have hP : va_P (dC, dI) vwCl [(m0, .inr (11, [.ref ywords, .ref ykinds, .int 0, .ref ytold, .ref ykind, .ref ysalt, .ref ypace, .ref ymute, .ref ylate, .ref yfrom, .ref yto, .ref ygoal, .ref ynow, .ref ystatus, .ref ytape, .int 7, .int 0, .int 0, .int 0, .int 0, .int 0, .int 0, .int 0, .int 0, .int (-1), .ref yreach, .int (-1), .int 0, .int 0, .int 0, .int 0, .int 0, .ref ymet, .int 0, .ref ypast, .ref yisAt, .ref ywaysTo, .ref ywide, .ref ydiamondFrom, .ref ydiamondTo, .int 0, .int 0, .int 0, .int 0, .ref ynotedPort, .ref ynotedGoal, .ref ynotedHop, .ref ynotedAddress, .ref yfitting, .int 0, .ref yrowThen, .int 0, .int 0, .int 0, .ref yimageRow, .ref ypastThen, .ref ynotedPortThen, .ref ynotedGoalThen, .ref ynotedHopThen, .ref ynotedAddressThen, .ref ystatusThen])), (ytape, .inl (kI, 700, .inl f63))] H := hP
  have hD : va_D A [(m0, .inr (11, [.ref ywords, .ref ykinds, .int 0, .ref ytold, .ref ykind, .ref ysalt, .ref ypace, .ref ymute, .ref ylate, .ref yfrom, .ref yto, .ref ygoal, .ref ynow, .ref ystatus, .ref ytape, .int 7, .int 0, .int 0, .int 0, .int 0, .int 0, .int 0, .int 0, .int 0, .int (-1), .ref yreach, .int (-1), .int 0, .int 0, .int 0, .int 0, .int 0, .ref ymet, .int 0, .ref ypast, .ref yisAt, .ref ywaysTo, .ref ywide, .ref ydiamondFrom, .ref ydiamondTo, .int 0, .int 0, .int 0, .int 0, .ref ynotedPort, .ref ynotedGoal, .ref ynotedHop, .ref ynotedAddress, .ref yfitting, .int 0, .ref yrowThen, .int 0, .int 0, .int 0, .ref yimageRow, .ref ypastThen, .ref ynotedPortThen, .ref ynotedGoalThen, .ref ynotedHopThen, .ref ynotedAddressThen, .ref ystatusThen])), (ytape, .inl (kI, 700, .inl f63))] := hD
  refine lv_iinc (v := 7) (lv' := [(6, .int 7), (7, .int p1), (0, .ref m0), (1, .int p0), (2, .int p1), (3, .int p2), (4, .int p3), (5, .int p4)]) hx hb dX11_feed_114 hl (k := 1) rfl (by decide) (by decide) rfl (fun ls hl => ?_)
  refine lv_goto (tgt := 23) hx hb dX11_feed_117 (by decide) ?_
  refine lv_iload hx hb dX11_feed_23 (lv_at hl 0 rfl) ?_
  refine lv_bipush (v := 20) hx hb dX11_feed_25 (by decide) ?_
  refine lv_icmp_ge (tgt := 120) hx hb dX11_feed_27 (by decide) (fun c9 => absurd c9 (by decide)) (fun _ => ?_)
  refine lv_iload hx hb dX11_feed_30 (lv_at hl 0 rfl) ?_
  refine lv_iconst (v := 4) hx hb dX11_feed_32 (by decide) ?_
  refine lv_icmp_ge (tgt := 40) hx hb dX11_feed_33 (by decide) (fun _ => ?_) (fun c9 => absurd (by decide) c9)
  refine lv_iload hx hb dX11_feed_40 (lv_at hl 0 rfl) ?_
  refine lv_bipush (v := 8) hx hb dX11_feed_42 (by decide) ?_
  refine lv_icmp_ge (tgt := 51) hx hb dX11_feed_44 (by decide) (fun c9 => absurd c9 (by decide)) (fun _ => ?_)
  refine lv_iload_n hx hb dX11_feed_47 rfl (lv_at hl 4 rfl) ?_
  refine lv_goto (tgt := 76) hx hb dX11_feed_48 (by decide) ?_
  refine lv_istore (lv' := [(7, .int p1), (6, .int 7), (0, .ref m0), (1, .int p0), (2, .int p1), (3, .int p2), (4, .int p3), (5, .int p4)]) hx hb dX11_feed_76 hl (by decide) rfl (fun ls hl => ?_)
  refine lv_aload_n hx hb dX11_feed_78 rfl (lv_at hl 2 rfl) ?_
  refine va_get (D := (dC, dI)) (ci := 11) (v := .ref ytape) (C := RX11) (T := TX11) (N := 61) hx hb hts hin11 hown hK hP 0 rfl rfl 14 (by decide) (hts (.fieldLink RX11 66 "PathProberModel" "tape" "[I") (List.mem_of_getElem? (i := 3) (by decide +kernel))) (fun _ h9 => h9) rfl dX11_feed_79 ?_
  refine lv_aload_n hx hb dX11_feed_82 rfl (lv_at hl 2 rfl) ?_
  refine va_get (D := (dC, dI)) (ci := 11) (v := .int 7) (C := RX11) (T := TX11) (N := 61) hx hb hts hin11 hown hK hP 0 rfl rfl 15 (by decide) (hts (.fieldLink RX11 145 "PathProberModel" "taped" "I") (List.mem_of_getElem? (i := 2) (by decide +kernel))) (fun _ h9 => h9) rfl dX11_feed_83 ?_
  refine lv_iload hx hb dX11_feed_86 (lv_at hl 0 rfl) ?_
  refine lv_bipush (v := 24) hx hb dX11_feed_88 (by decide) ?_
  refine lv_bipush (v := 8) hx hb dX11_feed_90 (by decide) ?_
  refine lv_iload hx hb dX11_feed_92 (lv_at hl 1 rfl) ?_
  refine lv_iconst (v := 4) hx hb dX11_feed_94 (by decide) ?_
  refine lv_irem hx hb dX11_feed_95 (by decide) ?_
  refine lv_topi (fun z66 e67 => ?_)
  obtain rfl : z66 = (3 : Int32) := e67.trans (by decide)
  refine lv_imul hx hb dX11_feed_96 ?_
  refine lv_topi (fun z68 e69 => ?_)
  obtain rfl : z68 = (24 : Int32) := e69.trans (by decide)
  refine lv_isub hx hb dX11_feed_97 ?_
  refine lv_topi (fun z70 e71 => ?_)
  obtain rfl : z70 = (0 : Int32) := e71.trans (by decide)
  refine lv_ishr hx hb dX11_feed_98 ?_
  refine lv_sipush (v := 255) hx hb dX11_feed_99 (by decide) ?_
  refine lv_iand hx hb dX11_feed_102 ?_
  refine va_iast hx hb hK hP hD hS 1 1 rfl rfl (vp_in_nI (n := 7) (by decide) (by decide)) dX11_feed_103 (fun H locs hP hD hS => ?_)
  have hP : va_P (dC, dI) vwCl [(m0, .inr (11, [.ref ywords, .ref ykinds, .int 0, .ref ytold, .ref ykind, .ref ysalt, .ref ypace, .ref ymute, .ref ylate, .ref yfrom, .ref yto, .ref ygoal, .ref ynow, .ref ystatus, .ref ytape, .int 7, .int 0, .int 0, .int 0, .int 0, .int 0, .int 0, .int 0, .int 0, .int (-1), .ref yreach, .int (-1), .int 0, .int 0, .int 0, .int 0, .int 0, .ref ymet, .int 0, .ref ypast, .ref yisAt, .ref ywaysTo, .ref ywide, .ref ydiamondFrom, .ref ydiamondTo, .int 0, .int 0, .int 0, .int 0, .ref ynotedPort, .ref ynotedGoal, .ref ynotedHop, .ref ynotedAddress, .ref yfitting, .int 0, .ref yrowThen, .int 0, .int 0, .int 0, .ref yimageRow, .ref ypastThen, .ref ynotedPortThen, .ref ynotedGoalThen, .ref ynotedHopThen, .ref ynotedAddressThen, .ref ystatusThen])), (ytape, .inl (kI, 700, .inl (upd f63 7 ((p1 >>> ((0 : Int32) &&& 31)) &&& 255))))] H := hP
  have hD : va_D A [(m0, .inr (11, [.ref ywords, .ref ykinds, .int 0, .ref ytold, .ref ykind, .ref ysalt, .ref ypace, .ref ymute, .ref ylate, .ref yfrom, .ref yto, .ref ygoal, .ref ynow, .ref ystatus, .ref ytape, .int 7, .int 0, .int 0, .int 0, .int 0, .int 0, .int 0, .int 0, .int 0, .int (-1), .ref yreach, .int (-1), .int 0, .int 0, .int 0, .int 0, .int 0, .ref ymet, .int 0, .ref ypast, .ref yisAt, .ref ywaysTo, .ref ywide, .ref ydiamondFrom, .ref ydiamondTo, .int 0, .int 0, .int 0, .int 0, .ref ynotedPort, .ref ynotedGoal, .ref ynotedHop, .ref ynotedAddress, .ref yfitting, .int 0, .ref yrowThen, .int 0, .int 0, .int 0, .ref yimageRow, .ref ypastThen, .ref ynotedPortThen, .ref ynotedGoalThen, .ref ynotedHopThen, .ref ynotedAddressThen, .ref ystatusThen])), (ytape, .inl (kI, 700, .inl (upd f63 7 ((p1 >>> ((0 : Int32) &&& 31)) &&& 255))))] := hD
  generalize (upd f63 7 ((p1 >>> ((0 : Int32) &&& 31)) &&& 255)) = f72 at hP hD
  refine lv_aload_n hx hb dX11_feed_104 rfl (lv_at hl 2 rfl) ?_
  refine lv_dup hx hb dX11_feed_105 rfl ?_
  refine va_get (D := (dC, dI)) (ci := 11) (v := .int 7) (C := RX11) (T := TX11) (N := 61) hx hb hts hin11 hown hK hP 0 rfl rfl 15 (by decide) (hts (.fieldLink RX11 145 "PathProberModel" "taped" "I") (List.mem_of_getElem? (i := 2) (by decide +kernel))) (fun _ h9 => h9) rfl dX11_feed_106 ?_
  refine lv_iconst (v := 1) hx hb dX11_feed_109 (by decide) ?_
  refine lv_iadd hx hb dX11_feed_110 ?_
  refine lv_topi (fun z73 e74 => ?_)
  obtain rfl : z73 = (8 : Int32) := e74.trans (by decide)
  refine va_put (D := (dC, dI)) (ci := 11) (v := .int 8) (ty := .int) (C := RX11) (T := TX11) (N := 61) hx hb hts hin11 tyX11 tyX11_ok nmX11 hown hK hP hD hS 0 rfl rfl 15 (by decide) (hts (.fieldLink RX11 145 "PathProberModel" "taped" "I") (List.mem_of_getElem? (i := 2) (by decide +kernel))) (fun _ h9 => h9) rfl (by decide +kernel) rfl rfl (Nat.le_of_ble_eq_true rfl) dX11_feed_111 (fun H locs hP hD hS => ?_)
  have hP : va_P (dC, dI) vwCl [(m0, .inr (11, [.ref ywords, .ref ykinds, .int 0, .ref ytold, .ref ykind, .ref ysalt, .ref ypace, .ref ymute, .ref ylate, .ref yfrom, .ref yto, .ref ygoal, .ref ynow, .ref ystatus, .ref ytape, .int 8, .int 0, .int 0, .int 0, .int 0, .int 0, .int 0, .int 0, .int 0, .int (-1), .ref yreach, .int (-1), .int 0, .int 0, .int 0, .int 0, .int 0, .ref ymet, .int 0, .ref ypast, .ref yisAt, .ref ywaysTo, .ref ywide, .ref ydiamondFrom, .ref ydiamondTo, .int 0, .int 0, .int 0, .int 0, .ref ynotedPort, .ref ynotedGoal, .ref ynotedHop, .ref ynotedAddress, .ref yfitting, .int 0, .ref yrowThen, .int 0, .int 0, .int 0, .ref yimageRow, .ref ypastThen, .ref ynotedPortThen, .ref ynotedGoalThen, .ref ynotedHopThen, .ref ynotedAddressThen, .ref ystatusThen])), (ytape, .inl (kI, 700, .inl f72))] H := hP
  have hD : va_D A [(m0, .inr (11, [.ref ywords, .ref ykinds, .int 0, .ref ytold, .ref ykind, .ref ysalt, .ref ypace, .ref ymute, .ref ylate, .ref yfrom, .ref yto, .ref ygoal, .ref ynow, .ref ystatus, .ref ytape, .int 8, .int 0, .int 0, .int 0, .int 0, .int 0, .int 0, .int 0, .int 0, .int (-1), .ref yreach, .int (-1), .int 0, .int 0, .int 0, .int 0, .int 0, .ref ymet, .int 0, .ref ypast, .ref yisAt, .ref ywaysTo, .ref ywide, .ref ydiamondFrom, .ref ydiamondTo, .int 0, .int 0, .int 0, .int 0, .ref ynotedPort, .ref ynotedGoal, .ref ynotedHop, .ref ynotedAddress, .ref yfitting, .int 0, .ref yrowThen, .int 0, .int 0, .int 0, .ref yimageRow, .ref ypastThen, .ref ynotedPortThen, .ref ynotedGoalThen, .ref ynotedHopThen, .ref ynotedAddressThen, .ref ystatusThen])), (ytape, .inl (kI, 700, .inl f72))] := hD
  refine lv_iinc (v := 8) (lv' := [(6, .int 8), (7, .int p1), (0, .ref m0), (1, .int p0), (2, .int p1), (3, .int p2), (4, .int p3), (5, .int p4)]) hx hb dX11_feed_114 hl (k := 1) rfl (by decide) (by decide) rfl (fun ls hl => ?_)
  refine lv_goto (tgt := 23) hx hb dX11_feed_117 (by decide) ?_
  refine lv_iload hx hb dX11_feed_23 (lv_at hl 0 rfl) ?_
  refine lv_bipush (v := 20) hx hb dX11_feed_25 (by decide) ?_
  refine lv_icmp_ge (tgt := 120) hx hb dX11_feed_27 (by decide) (fun c9 => absurd c9 (by decide)) (fun _ => ?_)
  refine lv_iload hx hb dX11_feed_30 (lv_at hl 0 rfl) ?_
  refine lv_iconst (v := 4) hx hb dX11_feed_32 (by decide) ?_
  refine lv_icmp_ge (tgt := 40) hx hb dX11_feed_33 (by decide) (fun _ => ?_) (fun c9 => absurd (by decide) c9)
  refine lv_iload hx hb dX11_feed_40 (lv_at hl 0 rfl) ?_
  refine lv_bipush (v := 8) hx hb dX11_feed_42 (by decide) ?_
  refine lv_icmp_ge (tgt := 51) hx hb dX11_feed_44 (by decide) (fun _ => ?_) (fun c9 => absurd (by decide) c9)
  refine lv_iload hx hb dX11_feed_51 (lv_at hl 0 rfl) ?_
  refine lv_bipush (v := 12) hx hb dX11_feed_53 (by decide) ?_
  refine lv_icmp_ge (tgt := 62) hx hb dX11_feed_55 (by decide) (fun c9 => absurd c9 (by decide)) (fun _ => ?_)
  refine lv_iload_n hx hb dX11_feed_58 rfl (lv_at hl 5 rfl) ?_
  refine lv_goto (tgt := 76) hx hb dX11_feed_59 (by decide) ?_
  refine lv_istore (lv' := [(7, .int p2), (6, .int 8), (0, .ref m0), (1, .int p0), (2, .int p1), (3, .int p2), (4, .int p3), (5, .int p4)]) hx hb dX11_feed_76 hl (by decide) rfl (fun ls hl => ?_)
  refine lv_aload_n hx hb dX11_feed_78 rfl (lv_at hl 2 rfl) ?_
  refine va_get (D := (dC, dI)) (ci := 11) (v := .ref ytape) (C := RX11) (T := TX11) (N := 61) hx hb hts hin11 hown hK hP 0 rfl rfl 14 (by decide) (hts (.fieldLink RX11 66 "PathProberModel" "tape" "[I") (List.mem_of_getElem? (i := 3) (by decide +kernel))) (fun _ h9 => h9) rfl dX11_feed_79 ?_
  refine lv_aload_n hx hb dX11_feed_82 rfl (lv_at hl 2 rfl) ?_
  refine va_get (D := (dC, dI)) (ci := 11) (v := .int 8) (C := RX11) (T := TX11) (N := 61) hx hb hts hin11 hown hK hP 0 rfl rfl 15 (by decide) (hts (.fieldLink RX11 145 "PathProberModel" "taped" "I") (List.mem_of_getElem? (i := 2) (by decide +kernel))) (fun _ h9 => h9) rfl dX11_feed_83 ?_
  refine lv_iload hx hb dX11_feed_86 (lv_at hl 0 rfl) ?_
  refine lv_bipush (v := 24) hx hb dX11_feed_88 (by decide) ?_
  refine lv_bipush (v := 8) hx hb dX11_feed_90 (by decide) ?_
  refine lv_iload hx hb dX11_feed_92 (lv_at hl 1 rfl) ?_
  refine lv_iconst (v := 4) hx hb dX11_feed_94 (by decide) ?_
  refine lv_irem hx hb dX11_feed_95 (by decide) ?_
  refine lv_topi (fun z75 e76 => ?_)
  obtain rfl : z75 = (0 : Int32) := e76.trans (by decide)
  refine lv_imul hx hb dX11_feed_96 ?_
  refine lv_topi (fun z77 e78 => ?_)
  obtain rfl : z77 = (0 : Int32) := e78.trans (by decide)
  refine lv_isub hx hb dX11_feed_97 ?_
  refine lv_topi (fun z79 e80 => ?_)
  obtain rfl : z79 = (24 : Int32) := e80.trans (by decide)
  refine lv_ishr hx hb dX11_feed_98 ?_
  refine lv_sipush (v := 255) hx hb dX11_feed_99 (by decide) ?_
  refine lv_iand hx hb dX11_feed_102 ?_
  refine va_iast hx hb hK hP hD hS 1 1 rfl rfl (vp_in_nI (n := 8) (by decide) (by decide)) dX11_feed_103 (fun H locs hP hD hS => ?_)
  have hP : va_P (dC, dI) vwCl [(m0, .inr (11, [.ref ywords, .ref ykinds, .int 0, .ref ytold, .ref ykind, .ref ysalt, .ref ypace, .ref ymute, .ref ylate, .ref yfrom, .ref yto, .ref ygoal, .ref ynow, .ref ystatus, .ref ytape, .int 8, .int 0, .int 0, .int 0, .int 0, .int 0, .int 0, .int 0, .int 0, .int (-1), .ref yreach, .int (-1), .int 0, .int 0, .int 0, .int 0, .int 0, .ref ymet, .int 0, .ref ypast, .ref yisAt, .ref ywaysTo, .ref ywide, .ref ydiamondFrom, .ref ydiamondTo, .int 0, .int 0, .int 0, .int 0, .ref ynotedPort, .ref ynotedGoal, .ref ynotedHop, .ref ynotedAddress, .ref yfitting, .int 0, .ref yrowThen, .int 0, .int 0, .int 0, .ref yimageRow, .ref ypastThen, .ref ynotedPortThen, .ref ynotedGoalThen, .ref ynotedHopThen, .ref ynotedAddressThen, .ref ystatusThen])), (ytape, .inl (kI, 700, .inl (upd f72 8 ((p2 >>> ((24 : Int32) &&& 31)) &&& 255))))] H := hP
  have hD : va_D A [(m0, .inr (11, [.ref ywords, .ref ykinds, .int 0, .ref ytold, .ref ykind, .ref ysalt, .ref ypace, .ref ymute, .ref ylate, .ref yfrom, .ref yto, .ref ygoal, .ref ynow, .ref ystatus, .ref ytape, .int 8, .int 0, .int 0, .int 0, .int 0, .int 0, .int 0, .int 0, .int 0, .int (-1), .ref yreach, .int (-1), .int 0, .int 0, .int 0, .int 0, .int 0, .ref ymet, .int 0, .ref ypast, .ref yisAt, .ref ywaysTo, .ref ywide, .ref ydiamondFrom, .ref ydiamondTo, .int 0, .int 0, .int 0, .int 0, .ref ynotedPort, .ref ynotedGoal, .ref ynotedHop, .ref ynotedAddress, .ref yfitting, .int 0, .ref yrowThen, .int 0, .int 0, .int 0, .ref yimageRow, .ref ypastThen, .ref ynotedPortThen, .ref ynotedGoalThen, .ref ynotedHopThen, .ref ynotedAddressThen, .ref ystatusThen])), (ytape, .inl (kI, 700, .inl (upd f72 8 ((p2 >>> ((24 : Int32) &&& 31)) &&& 255))))] := hD
  generalize (upd f72 8 ((p2 >>> ((24 : Int32) &&& 31)) &&& 255)) = f81 at hP hD
  refine lv_aload_n hx hb dX11_feed_104 rfl (lv_at hl 2 rfl) ?_
  refine lv_dup hx hb dX11_feed_105 rfl ?_
  refine va_get (D := (dC, dI)) (ci := 11) (v := .int 8) (C := RX11) (T := TX11) (N := 61) hx hb hts hin11 hown hK hP 0 rfl rfl 15 (by decide) (hts (.fieldLink RX11 145 "PathProberModel" "taped" "I") (List.mem_of_getElem? (i := 2) (by decide +kernel))) (fun _ h9 => h9) rfl dX11_feed_106 ?_
  refine lv_iconst (v := 1) hx hb dX11_feed_109 (by decide) ?_
  refine lv_iadd hx hb dX11_feed_110 ?_
  refine lv_topi (fun z82 e83 => ?_)
  obtain rfl : z82 = (9 : Int32) := e83.trans (by decide)
  refine va_put (D := (dC, dI)) (ci := 11) (v := .int 9) (ty := .int) (C := RX11) (T := TX11) (N := 61) hx hb hts hin11 tyX11 tyX11_ok nmX11 hown hK hP hD hS 0 rfl rfl 15 (by decide) (hts (.fieldLink RX11 145 "PathProberModel" "taped" "I") (List.mem_of_getElem? (i := 2) (by decide +kernel))) (fun _ h9 => h9) rfl (by decide +kernel) rfl rfl (Nat.le_of_ble_eq_true rfl) dX11_feed_111 (fun H locs hP hD hS => ?_)
  have hP : va_P (dC, dI) vwCl [(m0, .inr (11, [.ref ywords, .ref ykinds, .int 0, .ref ytold, .ref ykind, .ref ysalt, .ref ypace, .ref ymute, .ref ylate, .ref yfrom, .ref yto, .ref ygoal, .ref ynow, .ref ystatus, .ref ytape, .int 9, .int 0, .int 0, .int 0, .int 0, .int 0, .int 0, .int 0, .int 0, .int (-1), .ref yreach, .int (-1), .int 0, .int 0, .int 0, .int 0, .int 0, .ref ymet, .int 0, .ref ypast, .ref yisAt, .ref ywaysTo, .ref ywide, .ref ydiamondFrom, .ref ydiamondTo, .int 0, .int 0, .int 0, .int 0, .ref ynotedPort, .ref ynotedGoal, .ref ynotedHop, .ref ynotedAddress, .ref yfitting, .int 0, .ref yrowThen, .int 0, .int 0, .int 0, .ref yimageRow, .ref ypastThen, .ref ynotedPortThen, .ref ynotedGoalThen, .ref ynotedHopThen, .ref ynotedAddressThen, .ref ystatusThen])), (ytape, .inl (kI, 700, .inl f81))] H := hP
  have hD : va_D A [(m0, .inr (11, [.ref ywords, .ref ykinds, .int 0, .ref ytold, .ref ykind, .ref ysalt, .ref ypace, .ref ymute, .ref ylate, .ref yfrom, .ref yto, .ref ygoal, .ref ynow, .ref ystatus, .ref ytape, .int 9, .int 0, .int 0, .int 0, .int 0, .int 0, .int 0, .int 0, .int 0, .int (-1), .ref yreach, .int (-1), .int 0, .int 0, .int 0, .int 0, .int 0, .ref ymet, .int 0, .ref ypast, .ref yisAt, .ref ywaysTo, .ref ywide, .ref ydiamondFrom, .ref ydiamondTo, .int 0, .int 0, .int 0, .int 0, .ref ynotedPort, .ref ynotedGoal, .ref ynotedHop, .ref ynotedAddress, .ref yfitting, .int 0, .ref yrowThen, .int 0, .int 0, .int 0, .ref yimageRow, .ref ypastThen, .ref ynotedPortThen, .ref ynotedGoalThen, .ref ynotedHopThen, .ref ynotedAddressThen, .ref ystatusThen])), (ytape, .inl (kI, 700, .inl f81))] := hD
  refine lv_iinc (v := 9) (lv' := [(6, .int 9), (7, .int p2), (0, .ref m0), (1, .int p0), (2, .int p1), (3, .int p2), (4, .int p3), (5, .int p4)]) hx hb dX11_feed_114 hl (k := 1) rfl (by decide) (by decide) rfl (fun ls hl => ?_)
  refine lv_goto (tgt := 23) hx hb dX11_feed_117 (by decide) ?_
  refine lv_iload hx hb dX11_feed_23 (lv_at hl 0 rfl) ?_
  refine lv_bipush (v := 20) hx hb dX11_feed_25 (by decide) ?_
  refine lv_icmp_ge (tgt := 120) hx hb dX11_feed_27 (by decide) (fun c9 => absurd c9 (by decide)) (fun _ => ?_)
  refine lv_iload hx hb dX11_feed_30 (lv_at hl 0 rfl) ?_
  refine lv_iconst (v := 4) hx hb dX11_feed_32 (by decide) ?_
  refine lv_icmp_ge (tgt := 40) hx hb dX11_feed_33 (by decide) (fun _ => ?_) (fun c9 => absurd (by decide) c9)
  refine lv_iload hx hb dX11_feed_40 (lv_at hl 0 rfl) ?_
  refine lv_bipush (v := 8) hx hb dX11_feed_42 (by decide) ?_
  refine lv_icmp_ge (tgt := 51) hx hb dX11_feed_44 (by decide) (fun _ => ?_) (fun c9 => absurd (by decide) c9)
  refine lv_iload hx hb dX11_feed_51 (lv_at hl 0 rfl) ?_
  refine lv_bipush (v := 12) hx hb dX11_feed_53 (by decide) ?_
  refine lv_icmp_ge (tgt := 62) hx hb dX11_feed_55 (by decide) (fun c9 => absurd c9 (by decide)) (fun _ => ?_)
  refine lv_iload_n hx hb dX11_feed_58 rfl (lv_at hl 5 rfl) ?_
  refine lv_goto (tgt := 76) hx hb dX11_feed_59 (by decide) ?_
  refine lv_istore (lv' := [(7, .int p2), (6, .int 9), (0, .ref m0), (1, .int p0), (2, .int p1), (3, .int p2), (4, .int p3), (5, .int p4)]) hx hb dX11_feed_76 hl (by decide) rfl (fun ls hl => ?_)
  refine lv_aload_n hx hb dX11_feed_78 rfl (lv_at hl 2 rfl) ?_
  refine va_get (D := (dC, dI)) (ci := 11) (v := .ref ytape) (C := RX11) (T := TX11) (N := 61) hx hb hts hin11 hown hK hP 0 rfl rfl 14 (by decide) (hts (.fieldLink RX11 66 "PathProberModel" "tape" "[I") (List.mem_of_getElem? (i := 3) (by decide +kernel))) (fun _ h9 => h9) rfl dX11_feed_79 ?_
  refine lv_aload_n hx hb dX11_feed_82 rfl (lv_at hl 2 rfl) ?_
  refine va_get (D := (dC, dI)) (ci := 11) (v := .int 9) (C := RX11) (T := TX11) (N := 61) hx hb hts hin11 hown hK hP 0 rfl rfl 15 (by decide) (hts (.fieldLink RX11 145 "PathProberModel" "taped" "I") (List.mem_of_getElem? (i := 2) (by decide +kernel))) (fun _ h9 => h9) rfl dX11_feed_83 ?_
  refine lv_iload hx hb dX11_feed_86 (lv_at hl 0 rfl) ?_
  refine lv_bipush (v := 24) hx hb dX11_feed_88 (by decide) ?_
  refine lv_bipush (v := 8) hx hb dX11_feed_90 (by decide) ?_
  refine lv_iload hx hb dX11_feed_92 (lv_at hl 1 rfl) ?_
  refine lv_iconst (v := 4) hx hb dX11_feed_94 (by decide) ?_
  refine lv_irem hx hb dX11_feed_95 (by decide) ?_
  refine lv_topi (fun z84 e85 => ?_)
  obtain rfl : z84 = (1 : Int32) := e85.trans (by decide)
  refine lv_imul hx hb dX11_feed_96 ?_
  refine lv_topi (fun z86 e87 => ?_)
  obtain rfl : z86 = (8 : Int32) := e87.trans (by decide)
  refine lv_isub hx hb dX11_feed_97 ?_
  refine lv_topi (fun z88 e89 => ?_)
  obtain rfl : z88 = (16 : Int32) := e89.trans (by decide)
  refine lv_ishr hx hb dX11_feed_98 ?_
  refine lv_sipush (v := 255) hx hb dX11_feed_99 (by decide) ?_
  refine lv_iand hx hb dX11_feed_102 ?_
  refine va_iast hx hb hK hP hD hS 1 1 rfl rfl (vp_in_nI (n := 9) (by decide) (by decide)) dX11_feed_103 (fun H locs hP hD hS => ?_)
  have hP : va_P (dC, dI) vwCl [(m0, .inr (11, [.ref ywords, .ref ykinds, .int 0, .ref ytold, .ref ykind, .ref ysalt, .ref ypace, .ref ymute, .ref ylate, .ref yfrom, .ref yto, .ref ygoal, .ref ynow, .ref ystatus, .ref ytape, .int 9, .int 0, .int 0, .int 0, .int 0, .int 0, .int 0, .int 0, .int 0, .int (-1), .ref yreach, .int (-1), .int 0, .int 0, .int 0, .int 0, .int 0, .ref ymet, .int 0, .ref ypast, .ref yisAt, .ref ywaysTo, .ref ywide, .ref ydiamondFrom, .ref ydiamondTo, .int 0, .int 0, .int 0, .int 0, .ref ynotedPort, .ref ynotedGoal, .ref ynotedHop, .ref ynotedAddress, .ref yfitting, .int 0, .ref yrowThen, .int 0, .int 0, .int 0, .ref yimageRow, .ref ypastThen, .ref ynotedPortThen, .ref ynotedGoalThen, .ref ynotedHopThen, .ref ynotedAddressThen, .ref ystatusThen])), (ytape, .inl (kI, 700, .inl (upd f81 9 ((p2 >>> ((16 : Int32) &&& 31)) &&& 255))))] H := hP
  have hD : va_D A [(m0, .inr (11, [.ref ywords, .ref ykinds, .int 0, .ref ytold, .ref ykind, .ref ysalt, .ref ypace, .ref ymute, .ref ylate, .ref yfrom, .ref yto, .ref ygoal, .ref ynow, .ref ystatus, .ref ytape, .int 9, .int 0, .int 0, .int 0, .int 0, .int 0, .int 0, .int 0, .int 0, .int (-1), .ref yreach, .int (-1), .int 0, .int 0, .int 0, .int 0, .int 0, .ref ymet, .int 0, .ref ypast, .ref yisAt, .ref ywaysTo, .ref ywide, .ref ydiamondFrom, .ref ydiamondTo, .int 0, .int 0, .int 0, .int 0, .ref ynotedPort, .ref ynotedGoal, .ref ynotedHop, .ref ynotedAddress, .ref yfitting, .int 0, .ref yrowThen, .int 0, .int 0, .int 0, .ref yimageRow, .ref ypastThen, .ref ynotedPortThen, .ref ynotedGoalThen, .ref ynotedHopThen, .ref ynotedAddressThen, .ref ystatusThen])), (ytape, .inl (kI, 700, .inl (upd f81 9 ((p2 >>> ((16 : Int32) &&& 31)) &&& 255))))] := hD
  generalize (upd f81 9 ((p2 >>> ((16 : Int32) &&& 31)) &&& 255)) = f90 at hP hD
  refine lv_aload_n hx hb dX11_feed_104 rfl (lv_at hl 2 rfl) ?_
  refine lv_dup hx hb dX11_feed_105 rfl ?_
  refine va_get (D := (dC, dI)) (ci := 11) (v := .int 9) (C := RX11) (T := TX11) (N := 61) hx hb hts hin11 hown hK hP 0 rfl rfl 15 (by decide) (hts (.fieldLink RX11 145 "PathProberModel" "taped" "I") (List.mem_of_getElem? (i := 2) (by decide +kernel))) (fun _ h9 => h9) rfl dX11_feed_106 ?_
  refine lv_iconst (v := 1) hx hb dX11_feed_109 (by decide) ?_
  refine lv_iadd hx hb dX11_feed_110 ?_
  refine lv_topi (fun z91 e92 => ?_)
  obtain rfl : z91 = (10 : Int32) := e92.trans (by decide)
  refine va_put (D := (dC, dI)) (ci := 11) (v := .int 10) (ty := .int) (C := RX11) (T := TX11) (N := 61) hx hb hts hin11 tyX11 tyX11_ok nmX11 hown hK hP hD hS 0 rfl rfl 15 (by decide) (hts (.fieldLink RX11 145 "PathProberModel" "taped" "I") (List.mem_of_getElem? (i := 2) (by decide +kernel))) (fun _ h9 => h9) rfl (by decide +kernel) rfl rfl (Nat.le_of_ble_eq_true rfl) dX11_feed_111 (fun H locs hP hD hS => ?_)
  have hP : va_P (dC, dI) vwCl [(m0, .inr (11, [.ref ywords, .ref ykinds, .int 0, .ref ytold, .ref ykind, .ref ysalt, .ref ypace, .ref ymute, .ref ylate, .ref yfrom, .ref yto, .ref ygoal, .ref ynow, .ref ystatus, .ref ytape, .int 10, .int 0, .int 0, .int 0, .int 0, .int 0, .int 0, .int 0, .int 0, .int (-1), .ref yreach, .int (-1), .int 0, .int 0, .int 0, .int 0, .int 0, .ref ymet, .int 0, .ref ypast, .ref yisAt, .ref ywaysTo, .ref ywide, .ref ydiamondFrom, .ref ydiamondTo, .int 0, .int 0, .int 0, .int 0, .ref ynotedPort, .ref ynotedGoal, .ref ynotedHop, .ref ynotedAddress, .ref yfitting, .int 0, .ref yrowThen, .int 0, .int 0, .int 0, .ref yimageRow, .ref ypastThen, .ref ynotedPortThen, .ref ynotedGoalThen, .ref ynotedHopThen, .ref ynotedAddressThen, .ref ystatusThen])), (ytape, .inl (kI, 700, .inl f90))] H := hP
  have hD : va_D A [(m0, .inr (11, [.ref ywords, .ref ykinds, .int 0, .ref ytold, .ref ykind, .ref ysalt, .ref ypace, .ref ymute, .ref ylate, .ref yfrom, .ref yto, .ref ygoal, .ref ynow, .ref ystatus, .ref ytape, .int 10, .int 0, .int 0, .int 0, .int 0, .int 0, .int 0, .int 0, .int 0, .int (-1), .ref yreach, .int (-1), .int 0, .int 0, .int 0, .int 0, .int 0, .ref ymet, .int 0, .ref ypast, .ref yisAt, .ref ywaysTo, .ref ywide, .ref ydiamondFrom, .ref ydiamondTo, .int 0, .int 0, .int 0, .int 0, .ref ynotedPort, .ref ynotedGoal, .ref ynotedHop, .ref ynotedAddress, .ref yfitting, .int 0, .ref yrowThen, .int 0, .int 0, .int 0, .ref yimageRow, .ref ypastThen, .ref ynotedPortThen, .ref ynotedGoalThen, .ref ynotedHopThen, .ref ynotedAddressThen, .ref ystatusThen])), (ytape, .inl (kI, 700, .inl f90))] := hD
  refine lv_iinc (v := 10) (lv' := [(6, .int 10), (7, .int p2), (0, .ref m0), (1, .int p0), (2, .int p1), (3, .int p2), (4, .int p3), (5, .int p4)]) hx hb dX11_feed_114 hl (k := 1) rfl (by decide) (by decide) rfl (fun ls hl => ?_)
  refine lv_goto (tgt := 23) hx hb dX11_feed_117 (by decide) ?_
  refine lv_iload hx hb dX11_feed_23 (lv_at hl 0 rfl) ?_
  refine lv_bipush (v := 20) hx hb dX11_feed_25 (by decide) ?_
  refine lv_icmp_ge (tgt := 120) hx hb dX11_feed_27 (by decide) (fun c9 => absurd c9 (by decide)) (fun _ => ?_)
  refine lv_iload hx hb dX11_feed_30 (lv_at hl 0 rfl) ?_
  refine lv_iconst (v := 4) hx hb dX11_feed_32 (by decide) ?_
  refine lv_icmp_ge (tgt := 40) hx hb dX11_feed_33 (by decide) (fun _ => ?_) (fun c9 => absurd (by decide) c9)
  refine lv_iload hx hb dX11_feed_40 (lv_at hl 0 rfl) ?_
  refine lv_bipush (v := 8) hx hb dX11_feed_42 (by decide) ?_
  refine lv_icmp_ge (tgt := 51) hx hb dX11_feed_44 (by decide) (fun _ => ?_) (fun c9 => absurd (by decide) c9)
  refine lv_iload hx hb dX11_feed_51 (lv_at hl 0 rfl) ?_
  refine lv_bipush (v := 12) hx hb dX11_feed_53 (by decide) ?_
  refine lv_icmp_ge (tgt := 62) hx hb dX11_feed_55 (by decide) (fun c9 => absurd c9 (by decide)) (fun _ => ?_)
  refine lv_iload_n hx hb dX11_feed_58 rfl (lv_at hl 5 rfl) ?_
  refine lv_goto (tgt := 76) hx hb dX11_feed_59 (by decide) ?_
  refine lv_istore (lv' := [(7, .int p2), (6, .int 10), (0, .ref m0), (1, .int p0), (2, .int p1), (3, .int p2), (4, .int p3), (5, .int p4)]) hx hb dX11_feed_76 hl (by decide) rfl (fun ls hl => ?_)
  refine lv_aload_n hx hb dX11_feed_78 rfl (lv_at hl 2 rfl) ?_
  refine va_get (D := (dC, dI)) (ci := 11) (v := .ref ytape) (C := RX11) (T := TX11) (N := 61) hx hb hts hin11 hown hK hP 0 rfl rfl 14 (by decide) (hts (.fieldLink RX11 66 "PathProberModel" "tape" "[I") (List.mem_of_getElem? (i := 3) (by decide +kernel))) (fun _ h9 => h9) rfl dX11_feed_79 ?_
  refine lv_aload_n hx hb dX11_feed_82 rfl (lv_at hl 2 rfl) ?_
  refine va_get (D := (dC, dI)) (ci := 11) (v := .int 10) (C := RX11) (T := TX11) (N := 61) hx hb hts hin11 hown hK hP 0 rfl rfl 15 (by decide) (hts (.fieldLink RX11 145 "PathProberModel" "taped" "I") (List.mem_of_getElem? (i := 2) (by decide +kernel))) (fun _ h9 => h9) rfl dX11_feed_83 ?_
  refine lv_iload hx hb dX11_feed_86 (lv_at hl 0 rfl) ?_
  refine lv_bipush (v := 24) hx hb dX11_feed_88 (by decide) ?_
  refine lv_bipush (v := 8) hx hb dX11_feed_90 (by decide) ?_
  refine lv_iload hx hb dX11_feed_92 (lv_at hl 1 rfl) ?_
  refine lv_iconst (v := 4) hx hb dX11_feed_94 (by decide) ?_
  refine lv_irem hx hb dX11_feed_95 (by decide) ?_
  refine lv_topi (fun z93 e94 => ?_)
  obtain rfl : z93 = (2 : Int32) := e94.trans (by decide)
  refine lv_imul hx hb dX11_feed_96 ?_
  refine lv_topi (fun z95 e96 => ?_)
  obtain rfl : z95 = (16 : Int32) := e96.trans (by decide)
  refine lv_isub hx hb dX11_feed_97 ?_
  refine lv_topi (fun z97 e98 => ?_)
  obtain rfl : z97 = (8 : Int32) := e98.trans (by decide)
  refine lv_ishr hx hb dX11_feed_98 ?_
  refine lv_sipush (v := 255) hx hb dX11_feed_99 (by decide) ?_
  refine lv_iand hx hb dX11_feed_102 ?_
  refine va_iast hx hb hK hP hD hS 1 1 rfl rfl (vp_in_nI (n := 10) (by decide) (by decide)) dX11_feed_103 (fun H locs hP hD hS => ?_)
  have hP : va_P (dC, dI) vwCl [(m0, .inr (11, [.ref ywords, .ref ykinds, .int 0, .ref ytold, .ref ykind, .ref ysalt, .ref ypace, .ref ymute, .ref ylate, .ref yfrom, .ref yto, .ref ygoal, .ref ynow, .ref ystatus, .ref ytape, .int 10, .int 0, .int 0, .int 0, .int 0, .int 0, .int 0, .int 0, .int 0, .int (-1), .ref yreach, .int (-1), .int 0, .int 0, .int 0, .int 0, .int 0, .ref ymet, .int 0, .ref ypast, .ref yisAt, .ref ywaysTo, .ref ywide, .ref ydiamondFrom, .ref ydiamondTo, .int 0, .int 0, .int 0, .int 0, .ref ynotedPort, .ref ynotedGoal, .ref ynotedHop, .ref ynotedAddress, .ref yfitting, .int 0, .ref yrowThen, .int 0, .int 0, .int 0, .ref yimageRow, .ref ypastThen, .ref ynotedPortThen, .ref ynotedGoalThen, .ref ynotedHopThen, .ref ynotedAddressThen, .ref ystatusThen])), (ytape, .inl (kI, 700, .inl (upd f90 10 ((p2 >>> ((8 : Int32) &&& 31)) &&& 255))))] H := hP
  have hD : va_D A [(m0, .inr (11, [.ref ywords, .ref ykinds, .int 0, .ref ytold, .ref ykind, .ref ysalt, .ref ypace, .ref ymute, .ref ylate, .ref yfrom, .ref yto, .ref ygoal, .ref ynow, .ref ystatus, .ref ytape, .int 10, .int 0, .int 0, .int 0, .int 0, .int 0, .int 0, .int 0, .int 0, .int (-1), .ref yreach, .int (-1), .int 0, .int 0, .int 0, .int 0, .int 0, .ref ymet, .int 0, .ref ypast, .ref yisAt, .ref ywaysTo, .ref ywide, .ref ydiamondFrom, .ref ydiamondTo, .int 0, .int 0, .int 0, .int 0, .ref ynotedPort, .ref ynotedGoal, .ref ynotedHop, .ref ynotedAddress, .ref yfitting, .int 0, .ref yrowThen, .int 0, .int 0, .int 0, .ref yimageRow, .ref ypastThen, .ref ynotedPortThen, .ref ynotedGoalThen, .ref ynotedHopThen, .ref ynotedAddressThen, .ref ystatusThen])), (ytape, .inl (kI, 700, .inl (upd f90 10 ((p2 >>> ((8 : Int32) &&& 31)) &&& 255))))] := hD
  generalize (upd f90 10 ((p2 >>> ((8 : Int32) &&& 31)) &&& 255)) = f99 at hP hD
  refine lv_aload_n hx hb dX11_feed_104 rfl (lv_at hl 2 rfl) ?_
  refine lv_dup hx hb dX11_feed_105 rfl ?_
  refine va_get (D := (dC, dI)) (ci := 11) (v := .int 10) (C := RX11) (T := TX11) (N := 61) hx hb hts hin11 hown hK hP 0 rfl rfl 15 (by decide) (hts (.fieldLink RX11 145 "PathProberModel" "taped" "I") (List.mem_of_getElem? (i := 2) (by decide +kernel))) (fun _ h9 => h9) rfl dX11_feed_106 ?_
  refine lv_iconst (v := 1) hx hb dX11_feed_109 (by decide) ?_
  refine lv_iadd hx hb dX11_feed_110 ?_
  refine lv_topi (fun z100 e101 => ?_)
  obtain rfl : z100 = (11 : Int32) := e101.trans (by decide)
  refine va_put (D := (dC, dI)) (ci := 11) (v := .int 11) (ty := .int) (C := RX11) (T := TX11) (N := 61) hx hb hts hin11 tyX11 tyX11_ok nmX11 hown hK hP hD hS 0 rfl rfl 15 (by decide) (hts (.fieldLink RX11 145 "PathProberModel" "taped" "I") (List.mem_of_getElem? (i := 2) (by decide +kernel))) (fun _ h9 => h9) rfl (by decide +kernel) rfl rfl (Nat.le_of_ble_eq_true rfl) dX11_feed_111 (fun H locs hP hD hS => ?_)
  have hP : va_P (dC, dI) vwCl [(m0, .inr (11, [.ref ywords, .ref ykinds, .int 0, .ref ytold, .ref ykind, .ref ysalt, .ref ypace, .ref ymute, .ref ylate, .ref yfrom, .ref yto, .ref ygoal, .ref ynow, .ref ystatus, .ref ytape, .int 11, .int 0, .int 0, .int 0, .int 0, .int 0, .int 0, .int 0, .int 0, .int (-1), .ref yreach, .int (-1), .int 0, .int 0, .int 0, .int 0, .int 0, .ref ymet, .int 0, .ref ypast, .ref yisAt, .ref ywaysTo, .ref ywide, .ref ydiamondFrom, .ref ydiamondTo, .int 0, .int 0, .int 0, .int 0, .ref ynotedPort, .ref ynotedGoal, .ref ynotedHop, .ref ynotedAddress, .ref yfitting, .int 0, .ref yrowThen, .int 0, .int 0, .int 0, .ref yimageRow, .ref ypastThen, .ref ynotedPortThen, .ref ynotedGoalThen, .ref ynotedHopThen, .ref ynotedAddressThen, .ref ystatusThen])), (ytape, .inl (kI, 700, .inl f99))] H := hP
  have hD : va_D A [(m0, .inr (11, [.ref ywords, .ref ykinds, .int 0, .ref ytold, .ref ykind, .ref ysalt, .ref ypace, .ref ymute, .ref ylate, .ref yfrom, .ref yto, .ref ygoal, .ref ynow, .ref ystatus, .ref ytape, .int 11, .int 0, .int 0, .int 0, .int 0, .int 0, .int 0, .int 0, .int 0, .int (-1), .ref yreach, .int (-1), .int 0, .int 0, .int 0, .int 0, .int 0, .ref ymet, .int 0, .ref ypast, .ref yisAt, .ref ywaysTo, .ref ywide, .ref ydiamondFrom, .ref ydiamondTo, .int 0, .int 0, .int 0, .int 0, .ref ynotedPort, .ref ynotedGoal, .ref ynotedHop, .ref ynotedAddress, .ref yfitting, .int 0, .ref yrowThen, .int 0, .int 0, .int 0, .ref yimageRow, .ref ypastThen, .ref ynotedPortThen, .ref ynotedGoalThen, .ref ynotedHopThen, .ref ynotedAddressThen, .ref ystatusThen])), (ytape, .inl (kI, 700, .inl f99))] := hD
  refine lv_iinc (v := 11) (lv' := [(6, .int 11), (7, .int p2), (0, .ref m0), (1, .int p0), (2, .int p1), (3, .int p2), (4, .int p3), (5, .int p4)]) hx hb dX11_feed_114 hl (k := 1) rfl (by decide) (by decide) rfl (fun ls hl => ?_)
  refine lv_goto (tgt := 23) hx hb dX11_feed_117 (by decide) ?_
  refine lv_iload hx hb dX11_feed_23 (lv_at hl 0 rfl) ?_
  refine lv_bipush (v := 20) hx hb dX11_feed_25 (by decide) ?_
  refine lv_icmp_ge (tgt := 120) hx hb dX11_feed_27 (by decide) (fun c9 => absurd c9 (by decide)) (fun _ => ?_)
  refine lv_iload hx hb dX11_feed_30 (lv_at hl 0 rfl) ?_
  refine lv_iconst (v := 4) hx hb dX11_feed_32 (by decide) ?_
  refine lv_icmp_ge (tgt := 40) hx hb dX11_feed_33 (by decide) (fun _ => ?_) (fun c9 => absurd (by decide) c9)
  refine lv_iload hx hb dX11_feed_40 (lv_at hl 0 rfl) ?_
  refine lv_bipush (v := 8) hx hb dX11_feed_42 (by decide) ?_
  refine lv_icmp_ge (tgt := 51) hx hb dX11_feed_44 (by decide) (fun _ => ?_) (fun c9 => absurd (by decide) c9)
  refine lv_iload hx hb dX11_feed_51 (lv_at hl 0 rfl) ?_
  refine lv_bipush (v := 12) hx hb dX11_feed_53 (by decide) ?_
  refine lv_icmp_ge (tgt := 62) hx hb dX11_feed_55 (by decide) (fun c9 => absurd c9 (by decide)) (fun _ => ?_)
  refine lv_iload_n hx hb dX11_feed_58 rfl (lv_at hl 5 rfl) ?_
  refine lv_goto (tgt := 76) hx hb dX11_feed_59 (by decide) ?_
  refine lv_istore (lv' := [(7, .int p2), (6, .int 11), (0, .ref m0), (1, .int p0), (2, .int p1), (3, .int p2), (4, .int p3), (5, .int p4)]) hx hb dX11_feed_76 hl (by decide) rfl (fun ls hl => ?_)
  refine lv_aload_n hx hb dX11_feed_78 rfl (lv_at hl 2 rfl) ?_
  refine va_get (D := (dC, dI)) (ci := 11) (v := .ref ytape) (C := RX11) (T := TX11) (N := 61) hx hb hts hin11 hown hK hP 0 rfl rfl 14 (by decide) (hts (.fieldLink RX11 66 "PathProberModel" "tape" "[I") (List.mem_of_getElem? (i := 3) (by decide +kernel))) (fun _ h9 => h9) rfl dX11_feed_79 ?_
  refine lv_aload_n hx hb dX11_feed_82 rfl (lv_at hl 2 rfl) ?_
  refine va_get (D := (dC, dI)) (ci := 11) (v := .int 11) (C := RX11) (T := TX11) (N := 61) hx hb hts hin11 hown hK hP 0 rfl rfl 15 (by decide) (hts (.fieldLink RX11 145 "PathProberModel" "taped" "I") (List.mem_of_getElem? (i := 2) (by decide +kernel))) (fun _ h9 => h9) rfl dX11_feed_83 ?_
  refine lv_iload hx hb dX11_feed_86 (lv_at hl 0 rfl) ?_
  refine lv_bipush (v := 24) hx hb dX11_feed_88 (by decide) ?_
  refine lv_bipush (v := 8) hx hb dX11_feed_90 (by decide) ?_
  refine lv_iload hx hb dX11_feed_92 (lv_at hl 1 rfl) ?_
  refine lv_iconst (v := 4) hx hb dX11_feed_94 (by decide) ?_
  refine lv_irem hx hb dX11_feed_95 (by decide) ?_
  refine lv_topi (fun z102 e103 => ?_)
  obtain rfl : z102 = (3 : Int32) := e103.trans (by decide)
  refine lv_imul hx hb dX11_feed_96 ?_
  refine lv_topi (fun z104 e105 => ?_)
  obtain rfl : z104 = (24 : Int32) := e105.trans (by decide)
  refine lv_isub hx hb dX11_feed_97 ?_
  refine lv_topi (fun z106 e107 => ?_)
  obtain rfl : z106 = (0 : Int32) := e107.trans (by decide)
  refine lv_ishr hx hb dX11_feed_98 ?_
  refine lv_sipush (v := 255) hx hb dX11_feed_99 (by decide) ?_
  refine lv_iand hx hb dX11_feed_102 ?_
  refine va_iast hx hb hK hP hD hS 1 1 rfl rfl (vp_in_nI (n := 11) (by decide) (by decide)) dX11_feed_103 (fun H locs hP hD hS => ?_)
  have hP : va_P (dC, dI) vwCl [(m0, .inr (11, [.ref ywords, .ref ykinds, .int 0, .ref ytold, .ref ykind, .ref ysalt, .ref ypace, .ref ymute, .ref ylate, .ref yfrom, .ref yto, .ref ygoal, .ref ynow, .ref ystatus, .ref ytape, .int 11, .int 0, .int 0, .int 0, .int 0, .int 0, .int 0, .int 0, .int 0, .int (-1), .ref yreach, .int (-1), .int 0, .int 0, .int 0, .int 0, .int 0, .ref ymet, .int 0, .ref ypast, .ref yisAt, .ref ywaysTo, .ref ywide, .ref ydiamondFrom, .ref ydiamondTo, .int 0, .int 0, .int 0, .int 0, .ref ynotedPort, .ref ynotedGoal, .ref ynotedHop, .ref ynotedAddress, .ref yfitting, .int 0, .ref yrowThen, .int 0, .int 0, .int 0, .ref yimageRow, .ref ypastThen, .ref ynotedPortThen, .ref ynotedGoalThen, .ref ynotedHopThen, .ref ynotedAddressThen, .ref ystatusThen])), (ytape, .inl (kI, 700, .inl (upd f99 11 ((p2 >>> ((0 : Int32) &&& 31)) &&& 255))))] H := hP
  have hD : va_D A [(m0, .inr (11, [.ref ywords, .ref ykinds, .int 0, .ref ytold, .ref ykind, .ref ysalt, .ref ypace, .ref ymute, .ref ylate, .ref yfrom, .ref yto, .ref ygoal, .ref ynow, .ref ystatus, .ref ytape, .int 11, .int 0, .int 0, .int 0, .int 0, .int 0, .int 0, .int 0, .int 0, .int (-1), .ref yreach, .int (-1), .int 0, .int 0, .int 0, .int 0, .int 0, .ref ymet, .int 0, .ref ypast, .ref yisAt, .ref ywaysTo, .ref ywide, .ref ydiamondFrom, .ref ydiamondTo, .int 0, .int 0, .int 0, .int 0, .ref ynotedPort, .ref ynotedGoal, .ref ynotedHop, .ref ynotedAddress, .ref yfitting, .int 0, .ref yrowThen, .int 0, .int 0, .int 0, .ref yimageRow, .ref ypastThen, .ref ynotedPortThen, .ref ynotedGoalThen, .ref ynotedHopThen, .ref ynotedAddressThen, .ref ystatusThen])), (ytape, .inl (kI, 700, .inl (upd f99 11 ((p2 >>> ((0 : Int32) &&& 31)) &&& 255))))] := hD
  generalize (upd f99 11 ((p2 >>> ((0 : Int32) &&& 31)) &&& 255)) = f108 at hP hD
  refine lv_aload_n hx hb dX11_feed_104 rfl (lv_at hl 2 rfl) ?_
  refine lv_dup hx hb dX11_feed_105 rfl ?_
  refine va_get (D := (dC, dI)) (ci := 11) (v := .int 11) (C := RX11) (T := TX11) (N := 61) hx hb hts hin11 hown hK hP 0 rfl rfl 15 (by decide) (hts (.fieldLink RX11 145 "PathProberModel" "taped" "I") (List.mem_of_getElem? (i := 2) (by decide +kernel))) (fun _ h9 => h9) rfl dX11_feed_106 ?_
  refine lv_iconst (v := 1) hx hb dX11_feed_109 (by decide) ?_
  refine lv_iadd hx hb dX11_feed_110 ?_
  refine lv_topi (fun z109 e110 => ?_)
  obtain rfl : z109 = (12 : Int32) := e110.trans (by decide)
  refine va_put (D := (dC, dI)) (ci := 11) (v := .int 12) (ty := .int) (C := RX11) (T := TX11) (N := 61) hx hb hts hin11 tyX11 tyX11_ok nmX11 hown hK hP hD hS 0 rfl rfl 15 (by decide) (hts (.fieldLink RX11 145 "PathProberModel" "taped" "I") (List.mem_of_getElem? (i := 2) (by decide +kernel))) (fun _ h9 => h9) rfl (by decide +kernel) rfl rfl (Nat.le_of_ble_eq_true rfl) dX11_feed_111 (fun H locs hP hD hS => ?_)
  have hP : va_P (dC, dI) vwCl [(m0, .inr (11, [.ref ywords, .ref ykinds, .int 0, .ref ytold, .ref ykind, .ref ysalt, .ref ypace, .ref ymute, .ref ylate, .ref yfrom, .ref yto, .ref ygoal, .ref ynow, .ref ystatus, .ref ytape, .int 12, .int 0, .int 0, .int 0, .int 0, .int 0, .int 0, .int 0, .int 0, .int (-1), .ref yreach, .int (-1), .int 0, .int 0, .int 0, .int 0, .int 0, .ref ymet, .int 0, .ref ypast, .ref yisAt, .ref ywaysTo, .ref ywide, .ref ydiamondFrom, .ref ydiamondTo, .int 0, .int 0, .int 0, .int 0, .ref ynotedPort, .ref ynotedGoal, .ref ynotedHop, .ref ynotedAddress, .ref yfitting, .int 0, .ref yrowThen, .int 0, .int 0, .int 0, .ref yimageRow, .ref ypastThen, .ref ynotedPortThen, .ref ynotedGoalThen, .ref ynotedHopThen, .ref ynotedAddressThen, .ref ystatusThen])), (ytape, .inl (kI, 700, .inl f108))] H := hP
  have hD : va_D A [(m0, .inr (11, [.ref ywords, .ref ykinds, .int 0, .ref ytold, .ref ykind, .ref ysalt, .ref ypace, .ref ymute, .ref ylate, .ref yfrom, .ref yto, .ref ygoal, .ref ynow, .ref ystatus, .ref ytape, .int 12, .int 0, .int 0, .int 0, .int 0, .int 0, .int 0, .int 0, .int 0, .int (-1), .ref yreach, .int (-1), .int 0, .int 0, .int 0, .int 0, .int 0, .ref ymet, .int 0, .ref ypast, .ref yisAt, .ref ywaysTo, .ref ywide, .ref ydiamondFrom, .ref ydiamondTo, .int 0, .int 0, .int 0, .int 0, .ref ynotedPort, .ref ynotedGoal, .ref ynotedHop, .ref ynotedAddress, .ref yfitting, .int 0, .ref yrowThen, .int 0, .int 0, .int 0, .ref yimageRow, .ref ypastThen, .ref ynotedPortThen, .ref ynotedGoalThen, .ref ynotedHopThen, .ref ynotedAddressThen, .ref ystatusThen])), (ytape, .inl (kI, 700, .inl f108))] := hD
  refine lv_iinc (v := 12) (lv' := [(6, .int 12), (7, .int p2), (0, .ref m0), (1, .int p0), (2, .int p1), (3, .int p2), (4, .int p3), (5, .int p4)]) hx hb dX11_feed_114 hl (k := 1) rfl (by decide) (by decide) rfl (fun ls hl => ?_)
  refine lv_goto (tgt := 23) hx hb dX11_feed_117 (by decide) ?_
  refine lv_iload hx hb dX11_feed_23 (lv_at hl 0 rfl) ?_
  refine lv_bipush (v := 20) hx hb dX11_feed_25 (by decide) ?_
  refine lv_icmp_ge (tgt := 120) hx hb dX11_feed_27 (by decide) (fun c9 => absurd c9 (by decide)) (fun _ => ?_)
  refine lv_iload hx hb dX11_feed_30 (lv_at hl 0 rfl) ?_
  refine lv_iconst (v := 4) hx hb dX11_feed_32 (by decide) ?_
  refine lv_icmp_ge (tgt := 40) hx hb dX11_feed_33 (by decide) (fun _ => ?_) (fun c9 => absurd (by decide) c9)
  refine lv_iload hx hb dX11_feed_40 (lv_at hl 0 rfl) ?_
  refine lv_bipush (v := 8) hx hb dX11_feed_42 (by decide) ?_
  refine lv_icmp_ge (tgt := 51) hx hb dX11_feed_44 (by decide) (fun _ => ?_) (fun c9 => absurd (by decide) c9)
  refine lv_iload hx hb dX11_feed_51 (lv_at hl 0 rfl) ?_
  refine lv_bipush (v := 12) hx hb dX11_feed_53 (by decide) ?_
  refine lv_icmp_ge (tgt := 62) hx hb dX11_feed_55 (by decide) (fun _ => ?_) (fun c9 => absurd (by decide) c9)
  refine lv_iload hx hb dX11_feed_62 (lv_at hl 0 rfl) ?_
  refine lv_bipush (v := 16) hx hb dX11_feed_64 (by decide) ?_
  refine lv_icmp_ge (tgt := 74) hx hb dX11_feed_66 (by decide) (fun c9 => absurd c9 (by decide)) (fun _ => ?_)
  refine lv_iload hx hb dX11_feed_69 (lv_at hl 6 rfl) ?_
  refine lv_goto (tgt := 76) hx hb dX11_feed_71 (by decide) ?_
  refine lv_istore (lv' := [(7, .int p3), (6, .int 12), (0, .ref m0), (1, .int p0), (2, .int p1), (3, .int p2), (4, .int p3), (5, .int p4)]) hx hb dX11_feed_76 hl (by decide) rfl (fun ls hl => ?_)
  refine lv_aload_n hx hb dX11_feed_78 rfl (lv_at hl 2 rfl) ?_
  refine va_get (D := (dC, dI)) (ci := 11) (v := .ref ytape) (C := RX11) (T := TX11) (N := 61) hx hb hts hin11 hown hK hP 0 rfl rfl 14 (by decide) (hts (.fieldLink RX11 66 "PathProberModel" "tape" "[I") (List.mem_of_getElem? (i := 3) (by decide +kernel))) (fun _ h9 => h9) rfl dX11_feed_79 ?_
  refine lv_aload_n hx hb dX11_feed_82 rfl (lv_at hl 2 rfl) ?_
  refine va_get (D := (dC, dI)) (ci := 11) (v := .int 12) (C := RX11) (T := TX11) (N := 61) hx hb hts hin11 hown hK hP 0 rfl rfl 15 (by decide) (hts (.fieldLink RX11 145 "PathProberModel" "taped" "I") (List.mem_of_getElem? (i := 2) (by decide +kernel))) (fun _ h9 => h9) rfl dX11_feed_83 ?_
  refine lv_iload hx hb dX11_feed_86 (lv_at hl 0 rfl) ?_
  refine lv_bipush (v := 24) hx hb dX11_feed_88 (by decide) ?_
  refine lv_bipush (v := 8) hx hb dX11_feed_90 (by decide) ?_
  refine lv_iload hx hb dX11_feed_92 (lv_at hl 1 rfl) ?_
  refine lv_iconst (v := 4) hx hb dX11_feed_94 (by decide) ?_
  refine lv_irem hx hb dX11_feed_95 (by decide) ?_
  refine lv_topi (fun z111 e112 => ?_)
  obtain rfl : z111 = (0 : Int32) := e112.trans (by decide)
  refine lv_imul hx hb dX11_feed_96 ?_
  refine lv_topi (fun z113 e114 => ?_)
  obtain rfl : z113 = (0 : Int32) := e114.trans (by decide)
  refine lv_isub hx hb dX11_feed_97 ?_
  refine lv_topi (fun z115 e116 => ?_)
  obtain rfl : z115 = (24 : Int32) := e116.trans (by decide)
  refine lv_ishr hx hb dX11_feed_98 ?_
  refine lv_sipush (v := 255) hx hb dX11_feed_99 (by decide) ?_
  refine lv_iand hx hb dX11_feed_102 ?_
  refine va_iast hx hb hK hP hD hS 1 1 rfl rfl (vp_in_nI (n := 12) (by decide) (by decide)) dX11_feed_103 (fun H locs hP hD hS => ?_)
  have hP : va_P (dC, dI) vwCl [(m0, .inr (11, [.ref ywords, .ref ykinds, .int 0, .ref ytold, .ref ykind, .ref ysalt, .ref ypace, .ref ymute, .ref ylate, .ref yfrom, .ref yto, .ref ygoal, .ref ynow, .ref ystatus, .ref ytape, .int 12, .int 0, .int 0, .int 0, .int 0, .int 0, .int 0, .int 0, .int 0, .int (-1), .ref yreach, .int (-1), .int 0, .int 0, .int 0, .int 0, .int 0, .ref ymet, .int 0, .ref ypast, .ref yisAt, .ref ywaysTo, .ref ywide, .ref ydiamondFrom, .ref ydiamondTo, .int 0, .int 0, .int 0, .int 0, .ref ynotedPort, .ref ynotedGoal, .ref ynotedHop, .ref ynotedAddress, .ref yfitting, .int 0, .ref yrowThen, .int 0, .int 0, .int 0, .ref yimageRow, .ref ypastThen, .ref ynotedPortThen, .ref ynotedGoalThen, .ref ynotedHopThen, .ref ynotedAddressThen, .ref ystatusThen])), (ytape, .inl (kI, 700, .inl (upd f108 12 ((p3 >>> ((24 : Int32) &&& 31)) &&& 255))))] H := hP
  have hD : va_D A [(m0, .inr (11, [.ref ywords, .ref ykinds, .int 0, .ref ytold, .ref ykind, .ref ysalt, .ref ypace, .ref ymute, .ref ylate, .ref yfrom, .ref yto, .ref ygoal, .ref ynow, .ref ystatus, .ref ytape, .int 12, .int 0, .int 0, .int 0, .int 0, .int 0, .int 0, .int 0, .int 0, .int (-1), .ref yreach, .int (-1), .int 0, .int 0, .int 0, .int 0, .int 0, .ref ymet, .int 0, .ref ypast, .ref yisAt, .ref ywaysTo, .ref ywide, .ref ydiamondFrom, .ref ydiamondTo, .int 0, .int 0, .int 0, .int 0, .ref ynotedPort, .ref ynotedGoal, .ref ynotedHop, .ref ynotedAddress, .ref yfitting, .int 0, .ref yrowThen, .int 0, .int 0, .int 0, .ref yimageRow, .ref ypastThen, .ref ynotedPortThen, .ref ynotedGoalThen, .ref ynotedHopThen, .ref ynotedAddressThen, .ref ystatusThen])), (ytape, .inl (kI, 700, .inl (upd f108 12 ((p3 >>> ((24 : Int32) &&& 31)) &&& 255))))] := hD
  generalize (upd f108 12 ((p3 >>> ((24 : Int32) &&& 31)) &&& 255)) = f117 at hP hD
  refine lv_aload_n hx hb dX11_feed_104 rfl (lv_at hl 2 rfl) ?_
  refine lv_dup hx hb dX11_feed_105 rfl ?_
  refine va_get (D := (dC, dI)) (ci := 11) (v := .int 12) (C := RX11) (T := TX11) (N := 61) hx hb hts hin11 hown hK hP 0 rfl rfl 15 (by decide) (hts (.fieldLink RX11 145 "PathProberModel" "taped" "I") (List.mem_of_getElem? (i := 2) (by decide +kernel))) (fun _ h9 => h9) rfl dX11_feed_106 ?_
  refine lv_iconst (v := 1) hx hb dX11_feed_109 (by decide) ?_
  refine lv_iadd hx hb dX11_feed_110 ?_
  refine lv_topi (fun z118 e119 => ?_)
  obtain rfl : z118 = (13 : Int32) := e119.trans (by decide)
  refine va_put (D := (dC, dI)) (ci := 11) (v := .int 13) (ty := .int) (C := RX11) (T := TX11) (N := 61) hx hb hts hin11 tyX11 tyX11_ok nmX11 hown hK hP hD hS 0 rfl rfl 15 (by decide) (hts (.fieldLink RX11 145 "PathProberModel" "taped" "I") (List.mem_of_getElem? (i := 2) (by decide +kernel))) (fun _ h9 => h9) rfl (by decide +kernel) rfl rfl (Nat.le_of_ble_eq_true rfl) dX11_feed_111 (fun H locs hP hD hS => ?_)
  have hP : va_P (dC, dI) vwCl [(m0, .inr (11, [.ref ywords, .ref ykinds, .int 0, .ref ytold, .ref ykind, .ref ysalt, .ref ypace, .ref ymute, .ref ylate, .ref yfrom, .ref yto, .ref ygoal, .ref ynow, .ref ystatus, .ref ytape, .int 13, .int 0, .int 0, .int 0, .int 0, .int 0, .int 0, .int 0, .int 0, .int (-1), .ref yreach, .int (-1), .int 0, .int 0, .int 0, .int 0, .int 0, .ref ymet, .int 0, .ref ypast, .ref yisAt, .ref ywaysTo, .ref ywide, .ref ydiamondFrom, .ref ydiamondTo, .int 0, .int 0, .int 0, .int 0, .ref ynotedPort, .ref ynotedGoal, .ref ynotedHop, .ref ynotedAddress, .ref yfitting, .int 0, .ref yrowThen, .int 0, .int 0, .int 0, .ref yimageRow, .ref ypastThen, .ref ynotedPortThen, .ref ynotedGoalThen, .ref ynotedHopThen, .ref ynotedAddressThen, .ref ystatusThen])), (ytape, .inl (kI, 700, .inl f117))] H := hP
  have hD : va_D A [(m0, .inr (11, [.ref ywords, .ref ykinds, .int 0, .ref ytold, .ref ykind, .ref ysalt, .ref ypace, .ref ymute, .ref ylate, .ref yfrom, .ref yto, .ref ygoal, .ref ynow, .ref ystatus, .ref ytape, .int 13, .int 0, .int 0, .int 0, .int 0, .int 0, .int 0, .int 0, .int 0, .int (-1), .ref yreach, .int (-1), .int 0, .int 0, .int 0, .int 0, .int 0, .ref ymet, .int 0, .ref ypast, .ref yisAt, .ref ywaysTo, .ref ywide, .ref ydiamondFrom, .ref ydiamondTo, .int 0, .int 0, .int 0, .int 0, .ref ynotedPort, .ref ynotedGoal, .ref ynotedHop, .ref ynotedAddress, .ref yfitting, .int 0, .ref yrowThen, .int 0, .int 0, .int 0, .ref yimageRow, .ref ypastThen, .ref ynotedPortThen, .ref ynotedGoalThen, .ref ynotedHopThen, .ref ynotedAddressThen, .ref ystatusThen])), (ytape, .inl (kI, 700, .inl f117))] := hD
  refine lv_iinc (v := 13) (lv' := [(6, .int 13), (7, .int p3), (0, .ref m0), (1, .int p0), (2, .int p1), (3, .int p2), (4, .int p3), (5, .int p4)]) hx hb dX11_feed_114 hl (k := 1) rfl (by decide) (by decide) rfl (fun ls hl => ?_)
  refine lv_goto (tgt := 23) hx hb dX11_feed_117 (by decide) ?_
  refine lv_iload hx hb dX11_feed_23 (lv_at hl 0 rfl) ?_
  refine lv_bipush (v := 20) hx hb dX11_feed_25 (by decide) ?_
  refine lv_icmp_ge (tgt := 120) hx hb dX11_feed_27 (by decide) (fun c9 => absurd c9 (by decide)) (fun _ => ?_)
  refine lv_iload hx hb dX11_feed_30 (lv_at hl 0 rfl) ?_
  refine lv_iconst (v := 4) hx hb dX11_feed_32 (by decide) ?_
  refine lv_icmp_ge (tgt := 40) hx hb dX11_feed_33 (by decide) (fun _ => ?_) (fun c9 => absurd (by decide) c9)
  refine lv_iload hx hb dX11_feed_40 (lv_at hl 0 rfl) ?_
  refine lv_bipush (v := 8) hx hb dX11_feed_42 (by decide) ?_
  refine lv_icmp_ge (tgt := 51) hx hb dX11_feed_44 (by decide) (fun _ => ?_) (fun c9 => absurd (by decide) c9)
  refine lv_iload hx hb dX11_feed_51 (lv_at hl 0 rfl) ?_
  refine lv_bipush (v := 12) hx hb dX11_feed_53 (by decide) ?_
  refine lv_icmp_ge (tgt := 62) hx hb dX11_feed_55 (by decide) (fun _ => ?_) (fun c9 => absurd (by decide) c9)
  refine lv_iload hx hb dX11_feed_62 (lv_at hl 0 rfl) ?_
  refine lv_bipush (v := 16) hx hb dX11_feed_64 (by decide) ?_
  refine lv_icmp_ge (tgt := 74) hx hb dX11_feed_66 (by decide) (fun c9 => absurd c9 (by decide)) (fun _ => ?_)
  refine lv_iload hx hb dX11_feed_69 (lv_at hl 6 rfl) ?_
  refine lv_goto (tgt := 76) hx hb dX11_feed_71 (by decide) ?_
  refine lv_istore (lv' := [(7, .int p3), (6, .int 13), (0, .ref m0), (1, .int p0), (2, .int p1), (3, .int p2), (4, .int p3), (5, .int p4)]) hx hb dX11_feed_76 hl (by decide) rfl (fun ls hl => ?_)
  refine lv_aload_n hx hb dX11_feed_78 rfl (lv_at hl 2 rfl) ?_
  refine va_get (D := (dC, dI)) (ci := 11) (v := .ref ytape) (C := RX11) (T := TX11) (N := 61) hx hb hts hin11 hown hK hP 0 rfl rfl 14 (by decide) (hts (.fieldLink RX11 66 "PathProberModel" "tape" "[I") (List.mem_of_getElem? (i := 3) (by decide +kernel))) (fun _ h9 => h9) rfl dX11_feed_79 ?_
  refine lv_aload_n hx hb dX11_feed_82 rfl (lv_at hl 2 rfl) ?_
  refine va_get (D := (dC, dI)) (ci := 11) (v := .int 13) (C := RX11) (T := TX11) (N := 61) hx hb hts hin11 hown hK hP 0 rfl rfl 15 (by decide) (hts (.fieldLink RX11 145 "PathProberModel" "taped" "I") (List.mem_of_getElem? (i := 2) (by decide +kernel))) (fun _ h9 => h9) rfl dX11_feed_83 ?_
  refine lv_iload hx hb dX11_feed_86 (lv_at hl 0 rfl) ?_
  refine lv_bipush (v := 24) hx hb dX11_feed_88 (by decide) ?_
  refine lv_bipush (v := 8) hx hb dX11_feed_90 (by decide) ?_
  refine lv_iload hx hb dX11_feed_92 (lv_at hl 1 rfl) ?_
  refine lv_iconst (v := 4) hx hb dX11_feed_94 (by decide) ?_
  refine lv_irem hx hb dX11_feed_95 (by decide) ?_
  refine lv_topi (fun z120 e121 => ?_)
  obtain rfl : z120 = (1 : Int32) := e121.trans (by decide)
  refine lv_imul hx hb dX11_feed_96 ?_
  refine lv_topi (fun z122 e123 => ?_)
  obtain rfl : z122 = (8 : Int32) := e123.trans (by decide)
  refine lv_isub hx hb dX11_feed_97 ?_
  refine lv_topi (fun z124 e125 => ?_)
  obtain rfl : z124 = (16 : Int32) := e125.trans (by decide)
  refine lv_ishr hx hb dX11_feed_98 ?_
  refine lv_sipush (v := 255) hx hb dX11_feed_99 (by decide) ?_
  refine lv_iand hx hb dX11_feed_102 ?_
  refine va_iast hx hb hK hP hD hS 1 1 rfl rfl (vp_in_nI (n := 13) (by decide) (by decide)) dX11_feed_103 (fun H locs hP hD hS => ?_)
  have hP : va_P (dC, dI) vwCl [(m0, .inr (11, [.ref ywords, .ref ykinds, .int 0, .ref ytold, .ref ykind, .ref ysalt, .ref ypace, .ref ymute, .ref ylate, .ref yfrom, .ref yto, .ref ygoal, .ref ynow, .ref ystatus, .ref ytape, .int 13, .int 0, .int 0, .int 0, .int 0, .int 0, .int 0, .int 0, .int 0, .int (-1), .ref yreach, .int (-1), .int 0, .int 0, .int 0, .int 0, .int 0, .ref ymet, .int 0, .ref ypast, .ref yisAt, .ref ywaysTo, .ref ywide, .ref ydiamondFrom, .ref ydiamondTo, .int 0, .int 0, .int 0, .int 0, .ref ynotedPort, .ref ynotedGoal, .ref ynotedHop, .ref ynotedAddress, .ref yfitting, .int 0, .ref yrowThen, .int 0, .int 0, .int 0, .ref yimageRow, .ref ypastThen, .ref ynotedPortThen, .ref ynotedGoalThen, .ref ynotedHopThen, .ref ynotedAddressThen, .ref ystatusThen])), (ytape, .inl (kI, 700, .inl (upd f117 13 ((p3 >>> ((16 : Int32) &&& 31)) &&& 255))))] H := hP
  have hD : va_D A [(m0, .inr (11, [.ref ywords, .ref ykinds, .int 0, .ref ytold, .ref ykind, .ref ysalt, .ref ypace, .ref ymute, .ref ylate, .ref yfrom, .ref yto, .ref ygoal, .ref ynow, .ref ystatus, .ref ytape, .int 13, .int 0, .int 0, .int 0, .int 0, .int 0, .int 0, .int 0, .int 0, .int (-1), .ref yreach, .int (-1), .int 0, .int 0, .int 0, .int 0, .int 0, .ref ymet, .int 0, .ref ypast, .ref yisAt, .ref ywaysTo, .ref ywide, .ref ydiamondFrom, .ref ydiamondTo, .int 0, .int 0, .int 0, .int 0, .ref ynotedPort, .ref ynotedGoal, .ref ynotedHop, .ref ynotedAddress, .ref yfitting, .int 0, .ref yrowThen, .int 0, .int 0, .int 0, .ref yimageRow, .ref ypastThen, .ref ynotedPortThen, .ref ynotedGoalThen, .ref ynotedHopThen, .ref ynotedAddressThen, .ref ystatusThen])), (ytape, .inl (kI, 700, .inl (upd f117 13 ((p3 >>> ((16 : Int32) &&& 31)) &&& 255))))] := hD
  generalize (upd f117 13 ((p3 >>> ((16 : Int32) &&& 31)) &&& 255)) = f126 at hP hD
  refine lv_aload_n hx hb dX11_feed_104 rfl (lv_at hl 2 rfl) ?_
  refine lv_dup hx hb dX11_feed_105 rfl ?_
  refine va_get (D := (dC, dI)) (ci := 11) (v := .int 13) (C := RX11) (T := TX11) (N := 61) hx hb hts hin11 hown hK hP 0 rfl rfl 15 (by decide) (hts (.fieldLink RX11 145 "PathProberModel" "taped" "I") (List.mem_of_getElem? (i := 2) (by decide +kernel))) (fun _ h9 => h9) rfl dX11_feed_106 ?_
  refine lv_iconst (v := 1) hx hb dX11_feed_109 (by decide) ?_
  refine lv_iadd hx hb dX11_feed_110 ?_
  refine lv_topi (fun z127 e128 => ?_)
  obtain rfl : z127 = (14 : Int32) := e128.trans (by decide)
  refine va_put (D := (dC, dI)) (ci := 11) (v := .int 14) (ty := .int) (C := RX11) (T := TX11) (N := 61) hx hb hts hin11 tyX11 tyX11_ok nmX11 hown hK hP hD hS 0 rfl rfl 15 (by decide) (hts (.fieldLink RX11 145 "PathProberModel" "taped" "I") (List.mem_of_getElem? (i := 2) (by decide +kernel))) (fun _ h9 => h9) rfl (by decide +kernel) rfl rfl (Nat.le_of_ble_eq_true rfl) dX11_feed_111 (fun H locs hP hD hS => ?_)
  have hP : va_P (dC, dI) vwCl [(m0, .inr (11, [.ref ywords, .ref ykinds, .int 0, .ref ytold, .ref ykind, .ref ysalt, .ref ypace, .ref ymute, .ref ylate, .ref yfrom, .ref yto, .ref ygoal, .ref ynow, .ref ystatus, .ref ytape, .int 14, .int 0, .int 0, .int 0, .int 0, .int 0, .int 0, .int 0, .int 0, .int (-1), .ref yreach, .int (-1), .int 0, .int 0, .int 0, .int 0, .int 0, .ref ymet, .int 0, .ref ypast, .ref yisAt, .ref ywaysTo, .ref ywide, .ref ydiamondFrom, .ref ydiamondTo, .int 0, .int 0, .int 0, .int 0, .ref ynotedPort, .ref ynotedGoal, .ref ynotedHop, .ref ynotedAddress, .ref yfitting, .int 0, .ref yrowThen, .int 0, .int 0, .int 0, .ref yimageRow, .ref ypastThen, .ref ynotedPortThen, .ref ynotedGoalThen, .ref ynotedHopThen, .ref ynotedAddressThen, .ref ystatusThen])), (ytape, .inl (kI, 700, .inl f126))] H := hP
  have hD : va_D A [(m0, .inr (11, [.ref ywords, .ref ykinds, .int 0, .ref ytold, .ref ykind, .ref ysalt, .ref ypace, .ref ymute, .ref ylate, .ref yfrom, .ref yto, .ref ygoal, .ref ynow, .ref ystatus, .ref ytape, .int 14, .int 0, .int 0, .int 0, .int 0, .int 0, .int 0, .int 0, .int 0, .int (-1), .ref yreach, .int (-1), .int 0, .int 0, .int 0, .int 0, .int 0, .ref ymet, .int 0, .ref ypast, .ref yisAt, .ref ywaysTo, .ref ywide, .ref ydiamondFrom, .ref ydiamondTo, .int 0, .int 0, .int 0, .int 0, .ref ynotedPort, .ref ynotedGoal, .ref ynotedHop, .ref ynotedAddress, .ref yfitting, .int 0, .ref yrowThen, .int 0, .int 0, .int 0, .ref yimageRow, .ref ypastThen, .ref ynotedPortThen, .ref ynotedGoalThen, .ref ynotedHopThen, .ref ynotedAddressThen, .ref ystatusThen])), (ytape, .inl (kI, 700, .inl f126))] := hD
  refine lv_iinc (v := 14) (lv' := [(6, .int 14), (7, .int p3), (0, .ref m0), (1, .int p0), (2, .int p1), (3, .int p2), (4, .int p3), (5, .int p4)]) hx hb dX11_feed_114 hl (k := 1) rfl (by decide) (by decide) rfl (fun ls hl => ?_)
  refine lv_goto (tgt := 23) hx hb dX11_feed_117 (by decide) ?_
  refine lv_iload hx hb dX11_feed_23 (lv_at hl 0 rfl) ?_
  refine lv_bipush (v := 20) hx hb dX11_feed_25 (by decide) ?_
  refine lv_icmp_ge (tgt := 120) hx hb dX11_feed_27 (by decide) (fun c9 => absurd c9 (by decide)) (fun _ => ?_)
  refine lv_iload hx hb dX11_feed_30 (lv_at hl 0 rfl) ?_
  refine lv_iconst (v := 4) hx hb dX11_feed_32 (by decide) ?_
  refine lv_icmp_ge (tgt := 40) hx hb dX11_feed_33 (by decide) (fun _ => ?_) (fun c9 => absurd (by decide) c9)
  refine lv_iload hx hb dX11_feed_40 (lv_at hl 0 rfl) ?_
  refine lv_bipush (v := 8) hx hb dX11_feed_42 (by decide) ?_
  refine lv_icmp_ge (tgt := 51) hx hb dX11_feed_44 (by decide) (fun _ => ?_) (fun c9 => absurd (by decide) c9)
  refine lv_iload hx hb dX11_feed_51 (lv_at hl 0 rfl) ?_
  refine lv_bipush (v := 12) hx hb dX11_feed_53 (by decide) ?_
  refine lv_icmp_ge (tgt := 62) hx hb dX11_feed_55 (by decide) (fun _ => ?_) (fun c9 => absurd (by decide) c9)
  refine lv_iload hx hb dX11_feed_62 (lv_at hl 0 rfl) ?_
  refine lv_bipush (v := 16) hx hb dX11_feed_64 (by decide) ?_
  refine lv_icmp_ge (tgt := 74) hx hb dX11_feed_66 (by decide) (fun c9 => absurd c9 (by decide)) (fun _ => ?_)
  refine lv_iload hx hb dX11_feed_69 (lv_at hl 6 rfl) ?_
  refine lv_goto (tgt := 76) hx hb dX11_feed_71 (by decide) ?_
  refine lv_istore (lv' := [(7, .int p3), (6, .int 14), (0, .ref m0), (1, .int p0), (2, .int p1), (3, .int p2), (4, .int p3), (5, .int p4)]) hx hb dX11_feed_76 hl (by decide) rfl (fun ls hl => ?_)
  refine lv_aload_n hx hb dX11_feed_78 rfl (lv_at hl 2 rfl) ?_
  refine va_get (D := (dC, dI)) (ci := 11) (v := .ref ytape) (C := RX11) (T := TX11) (N := 61) hx hb hts hin11 hown hK hP 0 rfl rfl 14 (by decide) (hts (.fieldLink RX11 66 "PathProberModel" "tape" "[I") (List.mem_of_getElem? (i := 3) (by decide +kernel))) (fun _ h9 => h9) rfl dX11_feed_79 ?_
  refine lv_aload_n hx hb dX11_feed_82 rfl (lv_at hl 2 rfl) ?_
  refine va_get (D := (dC, dI)) (ci := 11) (v := .int 14) (C := RX11) (T := TX11) (N := 61) hx hb hts hin11 hown hK hP 0 rfl rfl 15 (by decide) (hts (.fieldLink RX11 145 "PathProberModel" "taped" "I") (List.mem_of_getElem? (i := 2) (by decide +kernel))) (fun _ h9 => h9) rfl dX11_feed_83 ?_
  refine lv_iload hx hb dX11_feed_86 (lv_at hl 0 rfl) ?_
  refine lv_bipush (v := 24) hx hb dX11_feed_88 (by decide) ?_
  refine lv_bipush (v := 8) hx hb dX11_feed_90 (by decide) ?_
  refine lv_iload hx hb dX11_feed_92 (lv_at hl 1 rfl) ?_
  refine lv_iconst (v := 4) hx hb dX11_feed_94 (by decide) ?_
  refine lv_irem hx hb dX11_feed_95 (by decide) ?_
  refine lv_topi (fun z129 e130 => ?_)
  obtain rfl : z129 = (2 : Int32) := e130.trans (by decide)
  refine lv_imul hx hb dX11_feed_96 ?_
  refine lv_topi (fun z131 e132 => ?_)
  obtain rfl : z131 = (16 : Int32) := e132.trans (by decide)
  refine lv_isub hx hb dX11_feed_97 ?_
  refine lv_topi (fun z133 e134 => ?_)
  obtain rfl : z133 = (8 : Int32) := e134.trans (by decide)
  refine lv_ishr hx hb dX11_feed_98 ?_
  refine lv_sipush (v := 255) hx hb dX11_feed_99 (by decide) ?_
  refine lv_iand hx hb dX11_feed_102 ?_
  refine va_iast hx hb hK hP hD hS 1 1 rfl rfl (vp_in_nI (n := 14) (by decide) (by decide)) dX11_feed_103 (fun H locs hP hD hS => ?_)
  have hP : va_P (dC, dI) vwCl [(m0, .inr (11, [.ref ywords, .ref ykinds, .int 0, .ref ytold, .ref ykind, .ref ysalt, .ref ypace, .ref ymute, .ref ylate, .ref yfrom, .ref yto, .ref ygoal, .ref ynow, .ref ystatus, .ref ytape, .int 14, .int 0, .int 0, .int 0, .int 0, .int 0, .int 0, .int 0, .int 0, .int (-1), .ref yreach, .int (-1), .int 0, .int 0, .int 0, .int 0, .int 0, .ref ymet, .int 0, .ref ypast, .ref yisAt, .ref ywaysTo, .ref ywide, .ref ydiamondFrom, .ref ydiamondTo, .int 0, .int 0, .int 0, .int 0, .ref ynotedPort, .ref ynotedGoal, .ref ynotedHop, .ref ynotedAddress, .ref yfitting, .int 0, .ref yrowThen, .int 0, .int 0, .int 0, .ref yimageRow, .ref ypastThen, .ref ynotedPortThen, .ref ynotedGoalThen, .ref ynotedHopThen, .ref ynotedAddressThen, .ref ystatusThen])), (ytape, .inl (kI, 700, .inl (upd f126 14 ((p3 >>> ((8 : Int32) &&& 31)) &&& 255))))] H := hP
  have hD : va_D A [(m0, .inr (11, [.ref ywords, .ref ykinds, .int 0, .ref ytold, .ref ykind, .ref ysalt, .ref ypace, .ref ymute, .ref ylate, .ref yfrom, .ref yto, .ref ygoal, .ref ynow, .ref ystatus, .ref ytape, .int 14, .int 0, .int 0, .int 0, .int 0, .int 0, .int 0, .int 0, .int 0, .int (-1), .ref yreach, .int (-1), .int 0, .int 0, .int 0, .int 0, .int 0, .ref ymet, .int 0, .ref ypast, .ref yisAt, .ref ywaysTo, .ref ywide, .ref ydiamondFrom, .ref ydiamondTo, .int 0, .int 0, .int 0, .int 0, .ref ynotedPort, .ref ynotedGoal, .ref ynotedHop, .ref ynotedAddress, .ref yfitting, .int 0, .ref yrowThen, .int 0, .int 0, .int 0, .ref yimageRow, .ref ypastThen, .ref ynotedPortThen, .ref ynotedGoalThen, .ref ynotedHopThen, .ref ynotedAddressThen, .ref ystatusThen])), (ytape, .inl (kI, 700, .inl (upd f126 14 ((p3 >>> ((8 : Int32) &&& 31)) &&& 255))))] := hD
  generalize (upd f126 14 ((p3 >>> ((8 : Int32) &&& 31)) &&& 255)) = f135 at hP hD
  refine lv_aload_n hx hb dX11_feed_104 rfl (lv_at hl 2 rfl) ?_
  refine lv_dup hx hb dX11_feed_105 rfl ?_
  refine va_get (D := (dC, dI)) (ci := 11) (v := .int 14) (C := RX11) (T := TX11) (N := 61) hx hb hts hin11 hown hK hP 0 rfl rfl 15 (by decide) (hts (.fieldLink RX11 145 "PathProberModel" "taped" "I") (List.mem_of_getElem? (i := 2) (by decide +kernel))) (fun _ h9 => h9) rfl dX11_feed_106 ?_
  refine lv_iconst (v := 1) hx hb dX11_feed_109 (by decide) ?_
  refine lv_iadd hx hb dX11_feed_110 ?_
  refine lv_topi (fun z136 e137 => ?_)
  obtain rfl : z136 = (15 : Int32) := e137.trans (by decide)
  refine va_put (D := (dC, dI)) (ci := 11) (v := .int 15) (ty := .int) (C := RX11) (T := TX11) (N := 61) hx hb hts hin11 tyX11 tyX11_ok nmX11 hown hK hP hD hS 0 rfl rfl 15 (by decide) (hts (.fieldLink RX11 145 "PathProberModel" "taped" "I") (List.mem_of_getElem? (i := 2) (by decide +kernel))) (fun _ h9 => h9) rfl (by decide +kernel) rfl rfl (Nat.le_of_ble_eq_true rfl) dX11_feed_111 (fun H locs hP hD hS => ?_)
  have hP : va_P (dC, dI) vwCl [(m0, .inr (11, [.ref ywords, .ref ykinds, .int 0, .ref ytold, .ref ykind, .ref ysalt, .ref ypace, .ref ymute, .ref ylate, .ref yfrom, .ref yto, .ref ygoal, .ref ynow, .ref ystatus, .ref ytape, .int 15, .int 0, .int 0, .int 0, .int 0, .int 0, .int 0, .int 0, .int 0, .int (-1), .ref yreach, .int (-1), .int 0, .int 0, .int 0, .int 0, .int 0, .ref ymet, .int 0, .ref ypast, .ref yisAt, .ref ywaysTo, .ref ywide, .ref ydiamondFrom, .ref ydiamondTo, .int 0, .int 0, .int 0, .int 0, .ref ynotedPort, .ref ynotedGoal, .ref ynotedHop, .ref ynotedAddress, .ref yfitting, .int 0, .ref yrowThen, .int 0, .int 0, .int 0, .ref yimageRow, .ref ypastThen, .ref ynotedPortThen, .ref ynotedGoalThen, .ref ynotedHopThen, .ref ynotedAddressThen, .ref ystatusThen])), (ytape, .inl (kI, 700, .inl f135))] H := hP
  have hD : va_D A [(m0, .inr (11, [.ref ywords, .ref ykinds, .int 0, .ref ytold, .ref ykind, .ref ysalt, .ref ypace, .ref ymute, .ref ylate, .ref yfrom, .ref yto, .ref ygoal, .ref ynow, .ref ystatus, .ref ytape, .int 15, .int 0, .int 0, .int 0, .int 0, .int 0, .int 0, .int 0, .int 0, .int (-1), .ref yreach, .int (-1), .int 0, .int 0, .int 0, .int 0, .int 0, .ref ymet, .int 0, .ref ypast, .ref yisAt, .ref ywaysTo, .ref ywide, .ref ydiamondFrom, .ref ydiamondTo, .int 0, .int 0, .int 0, .int 0, .ref ynotedPort, .ref ynotedGoal, .ref ynotedHop, .ref ynotedAddress, .ref yfitting, .int 0, .ref yrowThen, .int 0, .int 0, .int 0, .ref yimageRow, .ref ypastThen, .ref ynotedPortThen, .ref ynotedGoalThen, .ref ynotedHopThen, .ref ynotedAddressThen, .ref ystatusThen])), (ytape, .inl (kI, 700, .inl f135))] := hD
  refine lv_iinc (v := 15) (lv' := [(6, .int 15), (7, .int p3), (0, .ref m0), (1, .int p0), (2, .int p1), (3, .int p2), (4, .int p3), (5, .int p4)]) hx hb dX11_feed_114 hl (k := 1) rfl (by decide) (by decide) rfl (fun ls hl => ?_)
  refine lv_goto (tgt := 23) hx hb dX11_feed_117 (by decide) ?_
  refine lv_iload hx hb dX11_feed_23 (lv_at hl 0 rfl) ?_
  refine lv_bipush (v := 20) hx hb dX11_feed_25 (by decide) ?_
  refine lv_icmp_ge (tgt := 120) hx hb dX11_feed_27 (by decide) (fun c9 => absurd c9 (by decide)) (fun _ => ?_)
  refine lv_iload hx hb dX11_feed_30 (lv_at hl 0 rfl) ?_
  refine lv_iconst (v := 4) hx hb dX11_feed_32 (by decide) ?_
  refine lv_icmp_ge (tgt := 40) hx hb dX11_feed_33 (by decide) (fun _ => ?_) (fun c9 => absurd (by decide) c9)
  refine lv_iload hx hb dX11_feed_40 (lv_at hl 0 rfl) ?_
  refine lv_bipush (v := 8) hx hb dX11_feed_42 (by decide) ?_
  refine lv_icmp_ge (tgt := 51) hx hb dX11_feed_44 (by decide) (fun _ => ?_) (fun c9 => absurd (by decide) c9)
  refine lv_iload hx hb dX11_feed_51 (lv_at hl 0 rfl) ?_
  refine lv_bipush (v := 12) hx hb dX11_feed_53 (by decide) ?_
  refine lv_icmp_ge (tgt := 62) hx hb dX11_feed_55 (by decide) (fun _ => ?_) (fun c9 => absurd (by decide) c9)
  refine lv_iload hx hb dX11_feed_62 (lv_at hl 0 rfl) ?_
  refine lv_bipush (v := 16) hx hb dX11_feed_64 (by decide) ?_
  refine lv_icmp_ge (tgt := 74) hx hb dX11_feed_66 (by decide) (fun c9 => absurd c9 (by decide)) (fun _ => ?_)
  refine lv_iload hx hb dX11_feed_69 (lv_at hl 6 rfl) ?_
  refine lv_goto (tgt := 76) hx hb dX11_feed_71 (by decide) ?_
  refine lv_istore (lv' := [(7, .int p3), (6, .int 15), (0, .ref m0), (1, .int p0), (2, .int p1), (3, .int p2), (4, .int p3), (5, .int p4)]) hx hb dX11_feed_76 hl (by decide) rfl (fun ls hl => ?_)
  refine lv_aload_n hx hb dX11_feed_78 rfl (lv_at hl 2 rfl) ?_
  refine va_get (D := (dC, dI)) (ci := 11) (v := .ref ytape) (C := RX11) (T := TX11) (N := 61) hx hb hts hin11 hown hK hP 0 rfl rfl 14 (by decide) (hts (.fieldLink RX11 66 "PathProberModel" "tape" "[I") (List.mem_of_getElem? (i := 3) (by decide +kernel))) (fun _ h9 => h9) rfl dX11_feed_79 ?_
  refine lv_aload_n hx hb dX11_feed_82 rfl (lv_at hl 2 rfl) ?_
  refine va_get (D := (dC, dI)) (ci := 11) (v := .int 15) (C := RX11) (T := TX11) (N := 61) hx hb hts hin11 hown hK hP 0 rfl rfl 15 (by decide) (hts (.fieldLink RX11 145 "PathProberModel" "taped" "I") (List.mem_of_getElem? (i := 2) (by decide +kernel))) (fun _ h9 => h9) rfl dX11_feed_83 ?_
  refine lv_iload hx hb dX11_feed_86 (lv_at hl 0 rfl) ?_
  refine lv_bipush (v := 24) hx hb dX11_feed_88 (by decide) ?_
  refine lv_bipush (v := 8) hx hb dX11_feed_90 (by decide) ?_
  refine lv_iload hx hb dX11_feed_92 (lv_at hl 1 rfl) ?_
  refine lv_iconst (v := 4) hx hb dX11_feed_94 (by decide) ?_
  refine lv_irem hx hb dX11_feed_95 (by decide) ?_
  refine lv_topi (fun z138 e139 => ?_)
  obtain rfl : z138 = (3 : Int32) := e139.trans (by decide)
  refine lv_imul hx hb dX11_feed_96 ?_
  refine lv_topi (fun z140 e141 => ?_)
  obtain rfl : z140 = (24 : Int32) := e141.trans (by decide)
  refine lv_isub hx hb dX11_feed_97 ?_
  refine lv_topi (fun z142 e143 => ?_)
  obtain rfl : z142 = (0 : Int32) := e143.trans (by decide)
  refine lv_ishr hx hb dX11_feed_98 ?_
  refine lv_sipush (v := 255) hx hb dX11_feed_99 (by decide) ?_
  refine lv_iand hx hb dX11_feed_102 ?_
  refine va_iast hx hb hK hP hD hS 1 1 rfl rfl (vp_in_nI (n := 15) (by decide) (by decide)) dX11_feed_103 (fun H locs hP hD hS => ?_)
  have hP : va_P (dC, dI) vwCl [(m0, .inr (11, [.ref ywords, .ref ykinds, .int 0, .ref ytold, .ref ykind, .ref ysalt, .ref ypace, .ref ymute, .ref ylate, .ref yfrom, .ref yto, .ref ygoal, .ref ynow, .ref ystatus, .ref ytape, .int 15, .int 0, .int 0, .int 0, .int 0, .int 0, .int 0, .int 0, .int 0, .int (-1), .ref yreach, .int (-1), .int 0, .int 0, .int 0, .int 0, .int 0, .ref ymet, .int 0, .ref ypast, .ref yisAt, .ref ywaysTo, .ref ywide, .ref ydiamondFrom, .ref ydiamondTo, .int 0, .int 0, .int 0, .int 0, .ref ynotedPort, .ref ynotedGoal, .ref ynotedHop, .ref ynotedAddress, .ref yfitting, .int 0, .ref yrowThen, .int 0, .int 0, .int 0, .ref yimageRow, .ref ypastThen, .ref ynotedPortThen, .ref ynotedGoalThen, .ref ynotedHopThen, .ref ynotedAddressThen, .ref ystatusThen])), (ytape, .inl (kI, 700, .inl (upd f135 15 ((p3 >>> ((0 : Int32) &&& 31)) &&& 255))))] H := hP
  have hD : va_D A [(m0, .inr (11, [.ref ywords, .ref ykinds, .int 0, .ref ytold, .ref ykind, .ref ysalt, .ref ypace, .ref ymute, .ref ylate, .ref yfrom, .ref yto, .ref ygoal, .ref ynow, .ref ystatus, .ref ytape, .int 15, .int 0, .int 0, .int 0, .int 0, .int 0, .int 0, .int 0, .int 0, .int (-1), .ref yreach, .int (-1), .int 0, .int 0, .int 0, .int 0, .int 0, .ref ymet, .int 0, .ref ypast, .ref yisAt, .ref ywaysTo, .ref ywide, .ref ydiamondFrom, .ref ydiamondTo, .int 0, .int 0, .int 0, .int 0, .ref ynotedPort, .ref ynotedGoal, .ref ynotedHop, .ref ynotedAddress, .ref yfitting, .int 0, .ref yrowThen, .int 0, .int 0, .int 0, .ref yimageRow, .ref ypastThen, .ref ynotedPortThen, .ref ynotedGoalThen, .ref ynotedHopThen, .ref ynotedAddressThen, .ref ystatusThen])), (ytape, .inl (kI, 700, .inl (upd f135 15 ((p3 >>> ((0 : Int32) &&& 31)) &&& 255))))] := hD
  generalize (upd f135 15 ((p3 >>> ((0 : Int32) &&& 31)) &&& 255)) = f144 at hP hD
  refine lv_aload_n hx hb dX11_feed_104 rfl (lv_at hl 2 rfl) ?_
  refine lv_dup hx hb dX11_feed_105 rfl ?_
  refine va_get (D := (dC, dI)) (ci := 11) (v := .int 15) (C := RX11) (T := TX11) (N := 61) hx hb hts hin11 hown hK hP 0 rfl rfl 15 (by decide) (hts (.fieldLink RX11 145 "PathProberModel" "taped" "I") (List.mem_of_getElem? (i := 2) (by decide +kernel))) (fun _ h9 => h9) rfl dX11_feed_106 ?_
  refine lv_iconst (v := 1) hx hb dX11_feed_109 (by decide) ?_
  refine lv_iadd hx hb dX11_feed_110 ?_
  refine lv_topi (fun z145 e146 => ?_)
  obtain rfl : z145 = (16 : Int32) := e146.trans (by decide)
  refine va_put (D := (dC, dI)) (ci := 11) (v := .int 16) (ty := .int) (C := RX11) (T := TX11) (N := 61) hx hb hts hin11 tyX11 tyX11_ok nmX11 hown hK hP hD hS 0 rfl rfl 15 (by decide) (hts (.fieldLink RX11 145 "PathProberModel" "taped" "I") (List.mem_of_getElem? (i := 2) (by decide +kernel))) (fun _ h9 => h9) rfl (by decide +kernel) rfl rfl (Nat.le_of_ble_eq_true rfl) dX11_feed_111 (fun H locs hP hD hS => ?_)
  have hP : va_P (dC, dI) vwCl [(m0, .inr (11, [.ref ywords, .ref ykinds, .int 0, .ref ytold, .ref ykind, .ref ysalt, .ref ypace, .ref ymute, .ref ylate, .ref yfrom, .ref yto, .ref ygoal, .ref ynow, .ref ystatus, .ref ytape, .int 16, .int 0, .int 0, .int 0, .int 0, .int 0, .int 0, .int 0, .int 0, .int (-1), .ref yreach, .int (-1), .int 0, .int 0, .int 0, .int 0, .int 0, .ref ymet, .int 0, .ref ypast, .ref yisAt, .ref ywaysTo, .ref ywide, .ref ydiamondFrom, .ref ydiamondTo, .int 0, .int 0, .int 0, .int 0, .ref ynotedPort, .ref ynotedGoal, .ref ynotedHop, .ref ynotedAddress, .ref yfitting, .int 0, .ref yrowThen, .int 0, .int 0, .int 0, .ref yimageRow, .ref ypastThen, .ref ynotedPortThen, .ref ynotedGoalThen, .ref ynotedHopThen, .ref ynotedAddressThen, .ref ystatusThen])), (ytape, .inl (kI, 700, .inl f144))] H := hP
  have hD : va_D A [(m0, .inr (11, [.ref ywords, .ref ykinds, .int 0, .ref ytold, .ref ykind, .ref ysalt, .ref ypace, .ref ymute, .ref ylate, .ref yfrom, .ref yto, .ref ygoal, .ref ynow, .ref ystatus, .ref ytape, .int 16, .int 0, .int 0, .int 0, .int 0, .int 0, .int 0, .int 0, .int 0, .int (-1), .ref yreach, .int (-1), .int 0, .int 0, .int 0, .int 0, .int 0, .ref ymet, .int 0, .ref ypast, .ref yisAt, .ref ywaysTo, .ref ywide, .ref ydiamondFrom, .ref ydiamondTo, .int 0, .int 0, .int 0, .int 0, .ref ynotedPort, .ref ynotedGoal, .ref ynotedHop, .ref ynotedAddress, .ref yfitting, .int 0, .ref yrowThen, .int 0, .int 0, .int 0, .ref yimageRow, .ref ypastThen, .ref ynotedPortThen, .ref ynotedGoalThen, .ref ynotedHopThen, .ref ynotedAddressThen, .ref ystatusThen])), (ytape, .inl (kI, 700, .inl f144))] := hD
  refine lv_iinc (v := 16) (lv' := [(6, .int 16), (7, .int p3), (0, .ref m0), (1, .int p0), (2, .int p1), (3, .int p2), (4, .int p3), (5, .int p4)]) hx hb dX11_feed_114 hl (k := 1) rfl (by decide) (by decide) rfl (fun ls hl => ?_)
  refine lv_goto (tgt := 23) hx hb dX11_feed_117 (by decide) ?_
  refine lv_iload hx hb dX11_feed_23 (lv_at hl 0 rfl) ?_
  refine lv_bipush (v := 20) hx hb dX11_feed_25 (by decide) ?_
  refine lv_icmp_ge (tgt := 120) hx hb dX11_feed_27 (by decide) (fun c9 => absurd c9 (by decide)) (fun _ => ?_)
  refine lv_iload hx hb dX11_feed_30 (lv_at hl 0 rfl) ?_
  refine lv_iconst (v := 4) hx hb dX11_feed_32 (by decide) ?_
  refine lv_icmp_ge (tgt := 40) hx hb dX11_feed_33 (by decide) (fun _ => ?_) (fun c9 => absurd (by decide) c9)
  refine lv_iload hx hb dX11_feed_40 (lv_at hl 0 rfl) ?_
  refine lv_bipush (v := 8) hx hb dX11_feed_42 (by decide) ?_
  refine lv_icmp_ge (tgt := 51) hx hb dX11_feed_44 (by decide) (fun _ => ?_) (fun c9 => absurd (by decide) c9)
  refine lv_iload hx hb dX11_feed_51 (lv_at hl 0 rfl) ?_
  refine lv_bipush (v := 12) hx hb dX11_feed_53 (by decide) ?_
  refine lv_icmp_ge (tgt := 62) hx hb dX11_feed_55 (by decide) (fun _ => ?_) (fun c9 => absurd (by decide) c9)
  refine lv_iload hx hb dX11_feed_62 (lv_at hl 0 rfl) ?_
  refine lv_bipush (v := 16) hx hb dX11_feed_64 (by decide) ?_
  refine lv_icmp_ge (tgt := 74) hx hb dX11_feed_66 (by decide) (fun _ => ?_) (fun c9 => absurd (by decide) c9)
  refine lv_iload hx hb dX11_feed_74 (lv_at hl 7 rfl) ?_
  refine lv_istore (lv' := [(7, .int p4), (6, .int 16), (0, .ref m0), (1, .int p0), (2, .int p1), (3, .int p2), (4, .int p3), (5, .int p4)]) hx hb dX11_feed_76 hl (by decide) rfl (fun ls hl => ?_)
  refine lv_aload_n hx hb dX11_feed_78 rfl (lv_at hl 2 rfl) ?_
  refine va_get (D := (dC, dI)) (ci := 11) (v := .ref ytape) (C := RX11) (T := TX11) (N := 61) hx hb hts hin11 hown hK hP 0 rfl rfl 14 (by decide) (hts (.fieldLink RX11 66 "PathProberModel" "tape" "[I") (List.mem_of_getElem? (i := 3) (by decide +kernel))) (fun _ h9 => h9) rfl dX11_feed_79 ?_
  refine lv_aload_n hx hb dX11_feed_82 rfl (lv_at hl 2 rfl) ?_
  refine va_get (D := (dC, dI)) (ci := 11) (v := .int 16) (C := RX11) (T := TX11) (N := 61) hx hb hts hin11 hown hK hP 0 rfl rfl 15 (by decide) (hts (.fieldLink RX11 145 "PathProberModel" "taped" "I") (List.mem_of_getElem? (i := 2) (by decide +kernel))) (fun _ h9 => h9) rfl dX11_feed_83 ?_
  refine lv_iload hx hb dX11_feed_86 (lv_at hl 0 rfl) ?_
  refine lv_bipush (v := 24) hx hb dX11_feed_88 (by decide) ?_
  refine lv_bipush (v := 8) hx hb dX11_feed_90 (by decide) ?_
  refine lv_iload hx hb dX11_feed_92 (lv_at hl 1 rfl) ?_
  refine lv_iconst (v := 4) hx hb dX11_feed_94 (by decide) ?_
  refine lv_irem hx hb dX11_feed_95 (by decide) ?_
  refine lv_topi (fun z147 e148 => ?_)
  obtain rfl : z147 = (0 : Int32) := e148.trans (by decide)
  refine lv_imul hx hb dX11_feed_96 ?_
  refine lv_topi (fun z149 e150 => ?_)
  obtain rfl : z149 = (0 : Int32) := e150.trans (by decide)
  refine lv_isub hx hb dX11_feed_97 ?_
  refine lv_topi (fun z151 e152 => ?_)
  obtain rfl : z151 = (24 : Int32) := e152.trans (by decide)
  refine lv_ishr hx hb dX11_feed_98 ?_
  refine lv_sipush (v := 255) hx hb dX11_feed_99 (by decide) ?_
  refine lv_iand hx hb dX11_feed_102 ?_
  refine va_iast hx hb hK hP hD hS 1 1 rfl rfl (vp_in_nI (n := 16) (by decide) (by decide)) dX11_feed_103 (fun H locs hP hD hS => ?_)
  have hP : va_P (dC, dI) vwCl [(m0, .inr (11, [.ref ywords, .ref ykinds, .int 0, .ref ytold, .ref ykind, .ref ysalt, .ref ypace, .ref ymute, .ref ylate, .ref yfrom, .ref yto, .ref ygoal, .ref ynow, .ref ystatus, .ref ytape, .int 16, .int 0, .int 0, .int 0, .int 0, .int 0, .int 0, .int 0, .int 0, .int (-1), .ref yreach, .int (-1), .int 0, .int 0, .int 0, .int 0, .int 0, .ref ymet, .int 0, .ref ypast, .ref yisAt, .ref ywaysTo, .ref ywide, .ref ydiamondFrom, .ref ydiamondTo, .int 0, .int 0, .int 0, .int 0, .ref ynotedPort, .ref ynotedGoal, .ref ynotedHop, .ref ynotedAddress, .ref yfitting, .int 0, .ref yrowThen, .int 0, .int 0, .int 0, .ref yimageRow, .ref ypastThen, .ref ynotedPortThen, .ref ynotedGoalThen, .ref ynotedHopThen, .ref ynotedAddressThen, .ref ystatusThen])), (ytape, .inl (kI, 700, .inl (upd f144 16 ((p4 >>> ((24 : Int32) &&& 31)) &&& 255))))] H := hP
  have hD : va_D A [(m0, .inr (11, [.ref ywords, .ref ykinds, .int 0, .ref ytold, .ref ykind, .ref ysalt, .ref ypace, .ref ymute, .ref ylate, .ref yfrom, .ref yto, .ref ygoal, .ref ynow, .ref ystatus, .ref ytape, .int 16, .int 0, .int 0, .int 0, .int 0, .int 0, .int 0, .int 0, .int 0, .int (-1), .ref yreach, .int (-1), .int 0, .int 0, .int 0, .int 0, .int 0, .ref ymet, .int 0, .ref ypast, .ref yisAt, .ref ywaysTo, .ref ywide, .ref ydiamondFrom, .ref ydiamondTo, .int 0, .int 0, .int 0, .int 0, .ref ynotedPort, .ref ynotedGoal, .ref ynotedHop, .ref ynotedAddress, .ref yfitting, .int 0, .ref yrowThen, .int 0, .int 0, .int 0, .ref yimageRow, .ref ypastThen, .ref ynotedPortThen, .ref ynotedGoalThen, .ref ynotedHopThen, .ref ynotedAddressThen, .ref ystatusThen])), (ytape, .inl (kI, 700, .inl (upd f144 16 ((p4 >>> ((24 : Int32) &&& 31)) &&& 255))))] := hD
  generalize (upd f144 16 ((p4 >>> ((24 : Int32) &&& 31)) &&& 255)) = f153 at hP hD
  refine lv_aload_n hx hb dX11_feed_104 rfl (lv_at hl 2 rfl) ?_
  refine lv_dup hx hb dX11_feed_105 rfl ?_
  refine va_get (D := (dC, dI)) (ci := 11) (v := .int 16) (C := RX11) (T := TX11) (N := 61) hx hb hts hin11 hown hK hP 0 rfl rfl 15 (by decide) (hts (.fieldLink RX11 145 "PathProberModel" "taped" "I") (List.mem_of_getElem? (i := 2) (by decide +kernel))) (fun _ h9 => h9) rfl dX11_feed_106 ?_
  refine lv_iconst (v := 1) hx hb dX11_feed_109 (by decide) ?_
  refine lv_iadd hx hb dX11_feed_110 ?_
  refine lv_topi (fun z154 e155 => ?_)
  obtain rfl : z154 = (17 : Int32) := e155.trans (by decide)
  refine va_put (D := (dC, dI)) (ci := 11) (v := .int 17) (ty := .int) (C := RX11) (T := TX11) (N := 61) hx hb hts hin11 tyX11 tyX11_ok nmX11 hown hK hP hD hS 0 rfl rfl 15 (by decide) (hts (.fieldLink RX11 145 "PathProberModel" "taped" "I") (List.mem_of_getElem? (i := 2) (by decide +kernel))) (fun _ h9 => h9) rfl (by decide +kernel) rfl rfl (Nat.le_of_ble_eq_true rfl) dX11_feed_111 (fun H locs hP hD hS => ?_)
  have hP : va_P (dC, dI) vwCl [(m0, .inr (11, [.ref ywords, .ref ykinds, .int 0, .ref ytold, .ref ykind, .ref ysalt, .ref ypace, .ref ymute, .ref ylate, .ref yfrom, .ref yto, .ref ygoal, .ref ynow, .ref ystatus, .ref ytape, .int 17, .int 0, .int 0, .int 0, .int 0, .int 0, .int 0, .int 0, .int 0, .int (-1), .ref yreach, .int (-1), .int 0, .int 0, .int 0, .int 0, .int 0, .ref ymet, .int 0, .ref ypast, .ref yisAt, .ref ywaysTo, .ref ywide, .ref ydiamondFrom, .ref ydiamondTo, .int 0, .int 0, .int 0, .int 0, .ref ynotedPort, .ref ynotedGoal, .ref ynotedHop, .ref ynotedAddress, .ref yfitting, .int 0, .ref yrowThen, .int 0, .int 0, .int 0, .ref yimageRow, .ref ypastThen, .ref ynotedPortThen, .ref ynotedGoalThen, .ref ynotedHopThen, .ref ynotedAddressThen, .ref ystatusThen])), (ytape, .inl (kI, 700, .inl f153))] H := hP
  have hD : va_D A [(m0, .inr (11, [.ref ywords, .ref ykinds, .int 0, .ref ytold, .ref ykind, .ref ysalt, .ref ypace, .ref ymute, .ref ylate, .ref yfrom, .ref yto, .ref ygoal, .ref ynow, .ref ystatus, .ref ytape, .int 17, .int 0, .int 0, .int 0, .int 0, .int 0, .int 0, .int 0, .int 0, .int (-1), .ref yreach, .int (-1), .int 0, .int 0, .int 0, .int 0, .int 0, .ref ymet, .int 0, .ref ypast, .ref yisAt, .ref ywaysTo, .ref ywide, .ref ydiamondFrom, .ref ydiamondTo, .int 0, .int 0, .int 0, .int 0, .ref ynotedPort, .ref ynotedGoal, .ref ynotedHop, .ref ynotedAddress, .ref yfitting, .int 0, .ref yrowThen, .int 0, .int 0, .int 0, .ref yimageRow, .ref ypastThen, .ref ynotedPortThen, .ref ynotedGoalThen, .ref ynotedHopThen, .ref ynotedAddressThen, .ref ystatusThen])), (ytape, .inl (kI, 700, .inl f153))] := hD
  refine lv_iinc (v := 17) (lv' := [(6, .int 17), (7, .int p4), (0, .ref m0), (1, .int p0), (2, .int p1), (3, .int p2), (4, .int p3), (5, .int p4)]) hx hb dX11_feed_114 hl (k := 1) rfl (by decide) (by decide) rfl (fun ls hl => ?_)
  refine lv_goto (tgt := 23) hx hb dX11_feed_117 (by decide) ?_
  refine lv_iload hx hb dX11_feed_23 (lv_at hl 0 rfl) ?_
  refine lv_bipush (v := 20) hx hb dX11_feed_25 (by decide) ?_
  refine lv_icmp_ge (tgt := 120) hx hb dX11_feed_27 (by decide) (fun c9 => absurd c9 (by decide)) (fun _ => ?_)
  refine lv_iload hx hb dX11_feed_30 (lv_at hl 0 rfl) ?_
  refine lv_iconst (v := 4) hx hb dX11_feed_32 (by decide) ?_
  refine lv_icmp_ge (tgt := 40) hx hb dX11_feed_33 (by decide) (fun _ => ?_) (fun c9 => absurd (by decide) c9)
  refine lv_iload hx hb dX11_feed_40 (lv_at hl 0 rfl) ?_
  refine lv_bipush (v := 8) hx hb dX11_feed_42 (by decide) ?_
  refine lv_icmp_ge (tgt := 51) hx hb dX11_feed_44 (by decide) (fun _ => ?_) (fun c9 => absurd (by decide) c9)
  refine lv_iload hx hb dX11_feed_51 (lv_at hl 0 rfl) ?_
  refine lv_bipush (v := 12) hx hb dX11_feed_53 (by decide) ?_
  refine lv_icmp_ge (tgt := 62) hx hb dX11_feed_55 (by decide) (fun _ => ?_) (fun c9 => absurd (by decide) c9)
  refine lv_iload hx hb dX11_feed_62 (lv_at hl 0 rfl) ?_
  refine lv_bipush (v := 16) hx hb dX11_feed_64 (by decide) ?_
  refine lv_icmp_ge (tgt := 74) hx hb dX11_feed_66 (by decide) (fun _ => ?_) (fun c9 => absurd (by decide) c9)
  refine lv_iload hx hb dX11_feed_74 (lv_at hl 7 rfl) ?_
  refine lv_istore (lv' := [(7, .int p4), (6, .int 17), (0, .ref m0), (1, .int p0), (2, .int p1), (3, .int p2), (4, .int p3), (5, .int p4)]) hx hb dX11_feed_76 hl (by decide) rfl (fun ls hl => ?_)
  refine lv_aload_n hx hb dX11_feed_78 rfl (lv_at hl 2 rfl) ?_
  refine va_get (D := (dC, dI)) (ci := 11) (v := .ref ytape) (C := RX11) (T := TX11) (N := 61) hx hb hts hin11 hown hK hP 0 rfl rfl 14 (by decide) (hts (.fieldLink RX11 66 "PathProberModel" "tape" "[I") (List.mem_of_getElem? (i := 3) (by decide +kernel))) (fun _ h9 => h9) rfl dX11_feed_79 ?_
  refine lv_aload_n hx hb dX11_feed_82 rfl (lv_at hl 2 rfl) ?_
  refine va_get (D := (dC, dI)) (ci := 11) (v := .int 17) (C := RX11) (T := TX11) (N := 61) hx hb hts hin11 hown hK hP 0 rfl rfl 15 (by decide) (hts (.fieldLink RX11 145 "PathProberModel" "taped" "I") (List.mem_of_getElem? (i := 2) (by decide +kernel))) (fun _ h9 => h9) rfl dX11_feed_83 ?_
  refine lv_iload hx hb dX11_feed_86 (lv_at hl 0 rfl) ?_
  refine lv_bipush (v := 24) hx hb dX11_feed_88 (by decide) ?_
  refine lv_bipush (v := 8) hx hb dX11_feed_90 (by decide) ?_
  refine lv_iload hx hb dX11_feed_92 (lv_at hl 1 rfl) ?_
  refine lv_iconst (v := 4) hx hb dX11_feed_94 (by decide) ?_
  refine lv_irem hx hb dX11_feed_95 (by decide) ?_
  refine lv_topi (fun z156 e157 => ?_)
  obtain rfl : z156 = (1 : Int32) := e157.trans (by decide)
  refine lv_imul hx hb dX11_feed_96 ?_
  refine lv_topi (fun z158 e159 => ?_)
  obtain rfl : z158 = (8 : Int32) := e159.trans (by decide)
  refine lv_isub hx hb dX11_feed_97 ?_
  refine lv_topi (fun z160 e161 => ?_)
  obtain rfl : z160 = (16 : Int32) := e161.trans (by decide)
  refine lv_ishr hx hb dX11_feed_98 ?_
  refine lv_sipush (v := 255) hx hb dX11_feed_99 (by decide) ?_
  refine lv_iand hx hb dX11_feed_102 ?_
  refine va_iast hx hb hK hP hD hS 1 1 rfl rfl (vp_in_nI (n := 17) (by decide) (by decide)) dX11_feed_103 (fun H locs hP hD hS => ?_)
  have hP : va_P (dC, dI) vwCl [(m0, .inr (11, [.ref ywords, .ref ykinds, .int 0, .ref ytold, .ref ykind, .ref ysalt, .ref ypace, .ref ymute, .ref ylate, .ref yfrom, .ref yto, .ref ygoal, .ref ynow, .ref ystatus, .ref ytape, .int 17, .int 0, .int 0, .int 0, .int 0, .int 0, .int 0, .int 0, .int 0, .int (-1), .ref yreach, .int (-1), .int 0, .int 0, .int 0, .int 0, .int 0, .ref ymet, .int 0, .ref ypast, .ref yisAt, .ref ywaysTo, .ref ywide, .ref ydiamondFrom, .ref ydiamondTo, .int 0, .int 0, .int 0, .int 0, .ref ynotedPort, .ref ynotedGoal, .ref ynotedHop, .ref ynotedAddress, .ref yfitting, .int 0, .ref yrowThen, .int 0, .int 0, .int 0, .ref yimageRow, .ref ypastThen, .ref ynotedPortThen, .ref ynotedGoalThen, .ref ynotedHopThen, .ref ynotedAddressThen, .ref ystatusThen])), (ytape, .inl (kI, 700, .inl (upd f153 17 ((p4 >>> ((16 : Int32) &&& 31)) &&& 255))))] H := hP
  have hD : va_D A [(m0, .inr (11, [.ref ywords, .ref ykinds, .int 0, .ref ytold, .ref ykind, .ref ysalt, .ref ypace, .ref ymute, .ref ylate, .ref yfrom, .ref yto, .ref ygoal, .ref ynow, .ref ystatus, .ref ytape, .int 17, .int 0, .int 0, .int 0, .int 0, .int 0, .int 0, .int 0, .int 0, .int (-1), .ref yreach, .int (-1), .int 0, .int 0, .int 0, .int 0, .int 0, .ref ymet, .int 0, .ref ypast, .ref yisAt, .ref ywaysTo, .ref ywide, .ref ydiamondFrom, .ref ydiamondTo, .int 0, .int 0, .int 0, .int 0, .ref ynotedPort, .ref ynotedGoal, .ref ynotedHop, .ref ynotedAddress, .ref yfitting, .int 0, .ref yrowThen, .int 0, .int 0, .int 0, .ref yimageRow, .ref ypastThen, .ref ynotedPortThen, .ref ynotedGoalThen, .ref ynotedHopThen, .ref ynotedAddressThen, .ref ystatusThen])), (ytape, .inl (kI, 700, .inl (upd f153 17 ((p4 >>> ((16 : Int32) &&& 31)) &&& 255))))] := hD
  generalize (upd f153 17 ((p4 >>> ((16 : Int32) &&& 31)) &&& 255)) = f162 at hP hD
  refine lv_aload_n hx hb dX11_feed_104 rfl (lv_at hl 2 rfl) ?_
  refine lv_dup hx hb dX11_feed_105 rfl ?_
  refine va_get (D := (dC, dI)) (ci := 11) (v := .int 17) (C := RX11) (T := TX11) (N := 61) hx hb hts hin11 hown hK hP 0 rfl rfl 15 (by decide) (hts (.fieldLink RX11 145 "PathProberModel" "taped" "I") (List.mem_of_getElem? (i := 2) (by decide +kernel))) (fun _ h9 => h9) rfl dX11_feed_106 ?_
  refine lv_iconst (v := 1) hx hb dX11_feed_109 (by decide) ?_
  refine lv_iadd hx hb dX11_feed_110 ?_
  refine lv_topi (fun z163 e164 => ?_)
  obtain rfl : z163 = (18 : Int32) := e164.trans (by decide)
  refine va_put (D := (dC, dI)) (ci := 11) (v := .int 18) (ty := .int) (C := RX11) (T := TX11) (N := 61) hx hb hts hin11 tyX11 tyX11_ok nmX11 hown hK hP hD hS 0 rfl rfl 15 (by decide) (hts (.fieldLink RX11 145 "PathProberModel" "taped" "I") (List.mem_of_getElem? (i := 2) (by decide +kernel))) (fun _ h9 => h9) rfl (by decide +kernel) rfl rfl (Nat.le_of_ble_eq_true rfl) dX11_feed_111 (fun H locs hP hD hS => ?_)
  have hP : va_P (dC, dI) vwCl [(m0, .inr (11, [.ref ywords, .ref ykinds, .int 0, .ref ytold, .ref ykind, .ref ysalt, .ref ypace, .ref ymute, .ref ylate, .ref yfrom, .ref yto, .ref ygoal, .ref ynow, .ref ystatus, .ref ytape, .int 18, .int 0, .int 0, .int 0, .int 0, .int 0, .int 0, .int 0, .int 0, .int (-1), .ref yreach, .int (-1), .int 0, .int 0, .int 0, .int 0, .int 0, .ref ymet, .int 0, .ref ypast, .ref yisAt, .ref ywaysTo, .ref ywide, .ref ydiamondFrom, .ref ydiamondTo, .int 0, .int 0, .int 0, .int 0, .ref ynotedPort, .ref ynotedGoal, .ref ynotedHop, .ref ynotedAddress, .ref yfitting, .int 0, .ref yrowThen, .int 0, .int 0, .int 0, .ref yimageRow, .ref ypastThen, .ref ynotedPortThen, .ref ynotedGoalThen, .ref ynotedHopThen, .ref ynotedAddressThen, .ref ystatusThen])), (ytape, .inl (kI, 700, .inl f162))] H := hP
  have hD : va_D A [(m0, .inr (11, [.ref ywords, .ref ykinds, .int 0, .ref ytold, .ref ykind, .ref ysalt, .ref ypace, .ref ymute, .ref ylate, .ref yfrom, .ref yto, .ref ygoal, .ref ynow, .ref ystatus, .ref ytape, .int 18, .int 0, .int 0, .int 0, .int 0, .int 0, .int 0, .int 0, .int 0, .int (-1), .ref yreach, .int (-1), .int 0, .int 0, .int 0, .int 0, .int 0, .ref ymet, .int 0, .ref ypast, .ref yisAt, .ref ywaysTo, .ref ywide, .ref ydiamondFrom, .ref ydiamondTo, .int 0, .int 0, .int 0, .int 0, .ref ynotedPort, .ref ynotedGoal, .ref ynotedHop, .ref ynotedAddress, .ref yfitting, .int 0, .ref yrowThen, .int 0, .int 0, .int 0, .ref yimageRow, .ref ypastThen, .ref ynotedPortThen, .ref ynotedGoalThen, .ref ynotedHopThen, .ref ynotedAddressThen, .ref ystatusThen])), (ytape, .inl (kI, 700, .inl f162))] := hD
  refine lv_iinc (v := 18) (lv' := [(6, .int 18), (7, .int p4), (0, .ref m0), (1, .int p0), (2, .int p1), (3, .int p2), (4, .int p3), (5, .int p4)]) hx hb dX11_feed_114 hl (k := 1) rfl (by decide) (by decide) rfl (fun ls hl => ?_)
  refine lv_goto (tgt := 23) hx hb dX11_feed_117 (by decide) ?_
  refine lv_iload hx hb dX11_feed_23 (lv_at hl 0 rfl) ?_
  refine lv_bipush (v := 20) hx hb dX11_feed_25 (by decide) ?_
  refine lv_icmp_ge (tgt := 120) hx hb dX11_feed_27 (by decide) (fun c9 => absurd c9 (by decide)) (fun _ => ?_)
  refine lv_iload hx hb dX11_feed_30 (lv_at hl 0 rfl) ?_
  refine lv_iconst (v := 4) hx hb dX11_feed_32 (by decide) ?_
  refine lv_icmp_ge (tgt := 40) hx hb dX11_feed_33 (by decide) (fun _ => ?_) (fun c9 => absurd (by decide) c9)
  refine lv_iload hx hb dX11_feed_40 (lv_at hl 0 rfl) ?_
  refine lv_bipush (v := 8) hx hb dX11_feed_42 (by decide) ?_
  refine lv_icmp_ge (tgt := 51) hx hb dX11_feed_44 (by decide) (fun _ => ?_) (fun c9 => absurd (by decide) c9)
  refine lv_iload hx hb dX11_feed_51 (lv_at hl 0 rfl) ?_
  refine lv_bipush (v := 12) hx hb dX11_feed_53 (by decide) ?_
  refine lv_icmp_ge (tgt := 62) hx hb dX11_feed_55 (by decide) (fun _ => ?_) (fun c9 => absurd (by decide) c9)
  refine lv_iload hx hb dX11_feed_62 (lv_at hl 0 rfl) ?_
  refine lv_bipush (v := 16) hx hb dX11_feed_64 (by decide) ?_
  refine lv_icmp_ge (tgt := 74) hx hb dX11_feed_66 (by decide) (fun _ => ?_) (fun c9 => absurd (by decide) c9)
  refine lv_iload hx hb dX11_feed_74 (lv_at hl 7 rfl) ?_
  refine lv_istore (lv' := [(7, .int p4), (6, .int 18), (0, .ref m0), (1, .int p0), (2, .int p1), (3, .int p2), (4, .int p3), (5, .int p4)]) hx hb dX11_feed_76 hl (by decide) rfl (fun ls hl => ?_)
  refine lv_aload_n hx hb dX11_feed_78 rfl (lv_at hl 2 rfl) ?_
  refine va_get (D := (dC, dI)) (ci := 11) (v := .ref ytape) (C := RX11) (T := TX11) (N := 61) hx hb hts hin11 hown hK hP 0 rfl rfl 14 (by decide) (hts (.fieldLink RX11 66 "PathProberModel" "tape" "[I") (List.mem_of_getElem? (i := 3) (by decide +kernel))) (fun _ h9 => h9) rfl dX11_feed_79 ?_
  refine lv_aload_n hx hb dX11_feed_82 rfl (lv_at hl 2 rfl) ?_
  refine va_get (D := (dC, dI)) (ci := 11) (v := .int 18) (C := RX11) (T := TX11) (N := 61) hx hb hts hin11 hown hK hP 0 rfl rfl 15 (by decide) (hts (.fieldLink RX11 145 "PathProberModel" "taped" "I") (List.mem_of_getElem? (i := 2) (by decide +kernel))) (fun _ h9 => h9) rfl dX11_feed_83 ?_
  refine lv_iload hx hb dX11_feed_86 (lv_at hl 0 rfl) ?_
  refine lv_bipush (v := 24) hx hb dX11_feed_88 (by decide) ?_
  refine lv_bipush (v := 8) hx hb dX11_feed_90 (by decide) ?_
  refine lv_iload hx hb dX11_feed_92 (lv_at hl 1 rfl) ?_
  refine lv_iconst (v := 4) hx hb dX11_feed_94 (by decide) ?_
  refine lv_irem hx hb dX11_feed_95 (by decide) ?_
  refine lv_topi (fun z165 e166 => ?_)
  obtain rfl : z165 = (2 : Int32) := e166.trans (by decide)
  refine lv_imul hx hb dX11_feed_96 ?_
  refine lv_topi (fun z167 e168 => ?_)
  obtain rfl : z167 = (16 : Int32) := e168.trans (by decide)
  refine lv_isub hx hb dX11_feed_97 ?_
  refine lv_topi (fun z169 e170 => ?_)
  obtain rfl : z169 = (8 : Int32) := e170.trans (by decide)
  refine lv_ishr hx hb dX11_feed_98 ?_
  refine lv_sipush (v := 255) hx hb dX11_feed_99 (by decide) ?_
  refine lv_iand hx hb dX11_feed_102 ?_
  refine va_iast hx hb hK hP hD hS 1 1 rfl rfl (vp_in_nI (n := 18) (by decide) (by decide)) dX11_feed_103 (fun H locs hP hD hS => ?_)
  have hP : va_P (dC, dI) vwCl [(m0, .inr (11, [.ref ywords, .ref ykinds, .int 0, .ref ytold, .ref ykind, .ref ysalt, .ref ypace, .ref ymute, .ref ylate, .ref yfrom, .ref yto, .ref ygoal, .ref ynow, .ref ystatus, .ref ytape, .int 18, .int 0, .int 0, .int 0, .int 0, .int 0, .int 0, .int 0, .int 0, .int (-1), .ref yreach, .int (-1), .int 0, .int 0, .int 0, .int 0, .int 0, .ref ymet, .int 0, .ref ypast, .ref yisAt, .ref ywaysTo, .ref ywide, .ref ydiamondFrom, .ref ydiamondTo, .int 0, .int 0, .int 0, .int 0, .ref ynotedPort, .ref ynotedGoal, .ref ynotedHop, .ref ynotedAddress, .ref yfitting, .int 0, .ref yrowThen, .int 0, .int 0, .int 0, .ref yimageRow, .ref ypastThen, .ref ynotedPortThen, .ref ynotedGoalThen, .ref ynotedHopThen, .ref ynotedAddressThen, .ref ystatusThen])), (ytape, .inl (kI, 700, .inl (upd f162 18 ((p4 >>> ((8 : Int32) &&& 31)) &&& 255))))] H := hP
  have hD : va_D A [(m0, .inr (11, [.ref ywords, .ref ykinds, .int 0, .ref ytold, .ref ykind, .ref ysalt, .ref ypace, .ref ymute, .ref ylate, .ref yfrom, .ref yto, .ref ygoal, .ref ynow, .ref ystatus, .ref ytape, .int 18, .int 0, .int 0, .int 0, .int 0, .int 0, .int 0, .int 0, .int 0, .int (-1), .ref yreach, .int (-1), .int 0, .int 0, .int 0, .int 0, .int 0, .ref ymet, .int 0, .ref ypast, .ref yisAt, .ref ywaysTo, .ref ywide, .ref ydiamondFrom, .ref ydiamondTo, .int 0, .int 0, .int 0, .int 0, .ref ynotedPort, .ref ynotedGoal, .ref ynotedHop, .ref ynotedAddress, .ref yfitting, .int 0, .ref yrowThen, .int 0, .int 0, .int 0, .ref yimageRow, .ref ypastThen, .ref ynotedPortThen, .ref ynotedGoalThen, .ref ynotedHopThen, .ref ynotedAddressThen, .ref ystatusThen])), (ytape, .inl (kI, 700, .inl (upd f162 18 ((p4 >>> ((8 : Int32) &&& 31)) &&& 255))))] := hD
  generalize (upd f162 18 ((p4 >>> ((8 : Int32) &&& 31)) &&& 255)) = f171 at hP hD
  refine lv_aload_n hx hb dX11_feed_104 rfl (lv_at hl 2 rfl) ?_
  refine lv_dup hx hb dX11_feed_105 rfl ?_
  refine va_get (D := (dC, dI)) (ci := 11) (v := .int 18) (C := RX11) (T := TX11) (N := 61) hx hb hts hin11 hown hK hP 0 rfl rfl 15 (by decide) (hts (.fieldLink RX11 145 "PathProberModel" "taped" "I") (List.mem_of_getElem? (i := 2) (by decide +kernel))) (fun _ h9 => h9) rfl dX11_feed_106 ?_
  refine lv_iconst (v := 1) hx hb dX11_feed_109 (by decide) ?_
  refine lv_iadd hx hb dX11_feed_110 ?_
  refine lv_topi (fun z172 e173 => ?_)
  obtain rfl : z172 = (19 : Int32) := e173.trans (by decide)
  refine va_put (D := (dC, dI)) (ci := 11) (v := .int 19) (ty := .int) (C := RX11) (T := TX11) (N := 61) hx hb hts hin11 tyX11 tyX11_ok nmX11 hown hK hP hD hS 0 rfl rfl 15 (by decide) (hts (.fieldLink RX11 145 "PathProberModel" "taped" "I") (List.mem_of_getElem? (i := 2) (by decide +kernel))) (fun _ h9 => h9) rfl (by decide +kernel) rfl rfl (Nat.le_of_ble_eq_true rfl) dX11_feed_111 (fun H locs hP hD hS => ?_)
  have hP : va_P (dC, dI) vwCl [(m0, .inr (11, [.ref ywords, .ref ykinds, .int 0, .ref ytold, .ref ykind, .ref ysalt, .ref ypace, .ref ymute, .ref ylate, .ref yfrom, .ref yto, .ref ygoal, .ref ynow, .ref ystatus, .ref ytape, .int 19, .int 0, .int 0, .int 0, .int 0, .int 0, .int 0, .int 0, .int 0, .int (-1), .ref yreach, .int (-1), .int 0, .int 0, .int 0, .int 0, .int 0, .ref ymet, .int 0, .ref ypast, .ref yisAt, .ref ywaysTo, .ref ywide, .ref ydiamondFrom, .ref ydiamondTo, .int 0, .int 0, .int 0, .int 0, .ref ynotedPort, .ref ynotedGoal, .ref ynotedHop, .ref ynotedAddress, .ref yfitting, .int 0, .ref yrowThen, .int 0, .int 0, .int 0, .ref yimageRow, .ref ypastThen, .ref ynotedPortThen, .ref ynotedGoalThen, .ref ynotedHopThen, .ref ynotedAddressThen, .ref ystatusThen])), (ytape, .inl (kI, 700, .inl f171))] H := hP
  have hD : va_D A [(m0, .inr (11, [.ref ywords, .ref ykinds, .int 0, .ref ytold, .ref ykind, .ref ysalt, .ref ypace, .ref ymute, .ref ylate, .ref yfrom, .ref yto, .ref ygoal, .ref ynow, .ref ystatus, .ref ytape, .int 19, .int 0, .int 0, .int 0, .int 0, .int 0, .int 0, .int 0, .int 0, .int (-1), .ref yreach, .int (-1), .int 0, .int 0, .int 0, .int 0, .int 0, .ref ymet, .int 0, .ref ypast, .ref yisAt, .ref ywaysTo, .ref ywide, .ref ydiamondFrom, .ref ydiamondTo, .int 0, .int 0, .int 0, .int 0, .ref ynotedPort, .ref ynotedGoal, .ref ynotedHop, .ref ynotedAddress, .ref yfitting, .int 0, .ref yrowThen, .int 0, .int 0, .int 0, .ref yimageRow, .ref ypastThen, .ref ynotedPortThen, .ref ynotedGoalThen, .ref ynotedHopThen, .ref ynotedAddressThen, .ref ystatusThen])), (ytape, .inl (kI, 700, .inl f171))] := hD
  refine lv_iinc (v := 19) (lv' := [(6, .int 19), (7, .int p4), (0, .ref m0), (1, .int p0), (2, .int p1), (3, .int p2), (4, .int p3), (5, .int p4)]) hx hb dX11_feed_114 hl (k := 1) rfl (by decide) (by decide) rfl (fun ls hl => ?_)
  refine lv_goto (tgt := 23) hx hb dX11_feed_117 (by decide) ?_
  refine lv_iload hx hb dX11_feed_23 (lv_at hl 0 rfl) ?_
  refine lv_bipush (v := 20) hx hb dX11_feed_25 (by decide) ?_
  refine lv_icmp_ge (tgt := 120) hx hb dX11_feed_27 (by decide) (fun c9 => absurd c9 (by decide)) (fun _ => ?_)
  refine lv_iload hx hb dX11_feed_30 (lv_at hl 0 rfl) ?_
  refine lv_iconst (v := 4) hx hb dX11_feed_32 (by decide) ?_
  refine lv_icmp_ge (tgt := 40) hx hb dX11_feed_33 (by decide) (fun _ => ?_) (fun c9 => absurd (by decide) c9)
  refine lv_iload hx hb dX11_feed_40 (lv_at hl 0 rfl) ?_
  refine lv_bipush (v := 8) hx hb dX11_feed_42 (by decide) ?_
  refine lv_icmp_ge (tgt := 51) hx hb dX11_feed_44 (by decide) (fun _ => ?_) (fun c9 => absurd (by decide) c9)
  refine lv_iload hx hb dX11_feed_51 (lv_at hl 0 rfl) ?_
  refine lv_bipush (v := 12) hx hb dX11_feed_53 (by decide) ?_
  refine lv_icmp_ge (tgt := 62) hx hb dX11_feed_55 (by decide) (fun _ => ?_) (fun c9 => absurd (by decide) c9)
  refine lv_iload hx hb dX11_feed_62 (lv_at hl 0 rfl) ?_
  refine lv_bipush (v := 16) hx hb dX11_feed_64 (by decide) ?_
  refine lv_icmp_ge (tgt := 74) hx hb dX11_feed_66 (by decide) (fun _ => ?_) (fun c9 => absurd (by decide) c9)
  refine lv_iload hx hb dX11_feed_74 (lv_at hl 7 rfl) ?_
  refine lv_istore (lv' := [(7, .int p4), (6, .int 19), (0, .ref m0), (1, .int p0), (2, .int p1), (3, .int p2), (4, .int p3), (5, .int p4)]) hx hb dX11_feed_76 hl (by decide) rfl (fun ls hl => ?_)
  refine lv_aload_n hx hb dX11_feed_78 rfl (lv_at hl 2 rfl) ?_
  refine va_get (D := (dC, dI)) (ci := 11) (v := .ref ytape) (C := RX11) (T := TX11) (N := 61) hx hb hts hin11 hown hK hP 0 rfl rfl 14 (by decide) (hts (.fieldLink RX11 66 "PathProberModel" "tape" "[I") (List.mem_of_getElem? (i := 3) (by decide +kernel))) (fun _ h9 => h9) rfl dX11_feed_79 ?_
  refine lv_aload_n hx hb dX11_feed_82 rfl (lv_at hl 2 rfl) ?_
  refine va_get (D := (dC, dI)) (ci := 11) (v := .int 19) (C := RX11) (T := TX11) (N := 61) hx hb hts hin11 hown hK hP 0 rfl rfl 15 (by decide) (hts (.fieldLink RX11 145 "PathProberModel" "taped" "I") (List.mem_of_getElem? (i := 2) (by decide +kernel))) (fun _ h9 => h9) rfl dX11_feed_83 ?_
  refine lv_iload hx hb dX11_feed_86 (lv_at hl 0 rfl) ?_
  refine lv_bipush (v := 24) hx hb dX11_feed_88 (by decide) ?_
  refine lv_bipush (v := 8) hx hb dX11_feed_90 (by decide) ?_
  refine lv_iload hx hb dX11_feed_92 (lv_at hl 1 rfl) ?_
  refine lv_iconst (v := 4) hx hb dX11_feed_94 (by decide) ?_
  refine lv_irem hx hb dX11_feed_95 (by decide) ?_
  refine lv_topi (fun z174 e175 => ?_)
  obtain rfl : z174 = (3 : Int32) := e175.trans (by decide)
  refine lv_imul hx hb dX11_feed_96 ?_
  refine lv_topi (fun z176 e177 => ?_)
  obtain rfl : z176 = (24 : Int32) := e177.trans (by decide)
  refine lv_isub hx hb dX11_feed_97 ?_
  refine lv_topi (fun z178 e179 => ?_)
  obtain rfl : z178 = (0 : Int32) := e179.trans (by decide)
  refine lv_ishr hx hb dX11_feed_98 ?_
  refine lv_sipush (v := 255) hx hb dX11_feed_99 (by decide) ?_
  refine lv_iand hx hb dX11_feed_102 ?_
  refine va_iast hx hb hK hP hD hS 1 1 rfl rfl (vp_in_nI (n := 19) (by decide) (by decide)) dX11_feed_103 (fun H locs hP hD hS => ?_)
  have hP : va_P (dC, dI) vwCl [(m0, .inr (11, [.ref ywords, .ref ykinds, .int 0, .ref ytold, .ref ykind, .ref ysalt, .ref ypace, .ref ymute, .ref ylate, .ref yfrom, .ref yto, .ref ygoal, .ref ynow, .ref ystatus, .ref ytape, .int 19, .int 0, .int 0, .int 0, .int 0, .int 0, .int 0, .int 0, .int 0, .int (-1), .ref yreach, .int (-1), .int 0, .int 0, .int 0, .int 0, .int 0, .ref ymet, .int 0, .ref ypast, .ref yisAt, .ref ywaysTo, .ref ywide, .ref ydiamondFrom, .ref ydiamondTo, .int 0, .int 0, .int 0, .int 0, .ref ynotedPort, .ref ynotedGoal, .ref ynotedHop, .ref ynotedAddress, .ref yfitting, .int 0, .ref yrowThen, .int 0, .int 0, .int 0, .ref yimageRow, .ref ypastThen, .ref ynotedPortThen, .ref ynotedGoalThen, .ref ynotedHopThen, .ref ynotedAddressThen, .ref ystatusThen])), (ytape, .inl (kI, 700, .inl (upd f171 19 ((p4 >>> ((0 : Int32) &&& 31)) &&& 255))))] H := hP
  have hD : va_D A [(m0, .inr (11, [.ref ywords, .ref ykinds, .int 0, .ref ytold, .ref ykind, .ref ysalt, .ref ypace, .ref ymute, .ref ylate, .ref yfrom, .ref yto, .ref ygoal, .ref ynow, .ref ystatus, .ref ytape, .int 19, .int 0, .int 0, .int 0, .int 0, .int 0, .int 0, .int 0, .int 0, .int (-1), .ref yreach, .int (-1), .int 0, .int 0, .int 0, .int 0, .int 0, .ref ymet, .int 0, .ref ypast, .ref yisAt, .ref ywaysTo, .ref ywide, .ref ydiamondFrom, .ref ydiamondTo, .int 0, .int 0, .int 0, .int 0, .ref ynotedPort, .ref ynotedGoal, .ref ynotedHop, .ref ynotedAddress, .ref yfitting, .int 0, .ref yrowThen, .int 0, .int 0, .int 0, .ref yimageRow, .ref ypastThen, .ref ynotedPortThen, .ref ynotedGoalThen, .ref ynotedHopThen, .ref ynotedAddressThen, .ref ystatusThen])), (ytape, .inl (kI, 700, .inl (upd f171 19 ((p4 >>> ((0 : Int32) &&& 31)) &&& 255))))] := hD
  generalize (upd f171 19 ((p4 >>> ((0 : Int32) &&& 31)) &&& 255)) = f180 at hP hD
  refine lv_aload_n hx hb dX11_feed_104 rfl (lv_at hl 2 rfl) ?_
  refine lv_dup hx hb dX11_feed_105 rfl ?_
  refine va_get (D := (dC, dI)) (ci := 11) (v := .int 19) (C := RX11) (T := TX11) (N := 61) hx hb hts hin11 hown hK hP 0 rfl rfl 15 (by decide) (hts (.fieldLink RX11 145 "PathProberModel" "taped" "I") (List.mem_of_getElem? (i := 2) (by decide +kernel))) (fun _ h9 => h9) rfl dX11_feed_106 ?_
  refine lv_iconst (v := 1) hx hb dX11_feed_109 (by decide) ?_
  refine lv_iadd hx hb dX11_feed_110 ?_
  refine lv_topi (fun z181 e182 => ?_)
  obtain rfl : z181 = (20 : Int32) := e182.trans (by decide)
  refine va_put (D := (dC, dI)) (ci := 11) (v := .int 20) (ty := .int) (C := RX11) (T := TX11) (N := 61) hx hb hts hin11 tyX11 tyX11_ok nmX11 hown hK hP hD hS 0 rfl rfl 15 (by decide) (hts (.fieldLink RX11 145 "PathProberModel" "taped" "I") (List.mem_of_getElem? (i := 2) (by decide +kernel))) (fun _ h9 => h9) rfl (by decide +kernel) rfl rfl (Nat.le_of_ble_eq_true rfl) dX11_feed_111 (fun H locs hP hD hS => ?_)
  have hP : va_P (dC, dI) vwCl [(m0, .inr (11, [.ref ywords, .ref ykinds, .int 0, .ref ytold, .ref ykind, .ref ysalt, .ref ypace, .ref ymute, .ref ylate, .ref yfrom, .ref yto, .ref ygoal, .ref ynow, .ref ystatus, .ref ytape, .int 20, .int 0, .int 0, .int 0, .int 0, .int 0, .int 0, .int 0, .int 0, .int (-1), .ref yreach, .int (-1), .int 0, .int 0, .int 0, .int 0, .int 0, .ref ymet, .int 0, .ref ypast, .ref yisAt, .ref ywaysTo, .ref ywide, .ref ydiamondFrom, .ref ydiamondTo, .int 0, .int 0, .int 0, .int 0, .ref ynotedPort, .ref ynotedGoal, .ref ynotedHop, .ref ynotedAddress, .ref yfitting, .int 0, .ref yrowThen, .int 0, .int 0, .int 0, .ref yimageRow, .ref ypastThen, .ref ynotedPortThen, .ref ynotedGoalThen, .ref ynotedHopThen, .ref ynotedAddressThen, .ref ystatusThen])), (ytape, .inl (kI, 700, .inl f180))] H := hP
  have hD : va_D A [(m0, .inr (11, [.ref ywords, .ref ykinds, .int 0, .ref ytold, .ref ykind, .ref ysalt, .ref ypace, .ref ymute, .ref ylate, .ref yfrom, .ref yto, .ref ygoal, .ref ynow, .ref ystatus, .ref ytape, .int 20, .int 0, .int 0, .int 0, .int 0, .int 0, .int 0, .int 0, .int 0, .int (-1), .ref yreach, .int (-1), .int 0, .int 0, .int 0, .int 0, .int 0, .ref ymet, .int 0, .ref ypast, .ref yisAt, .ref ywaysTo, .ref ywide, .ref ydiamondFrom, .ref ydiamondTo, .int 0, .int 0, .int 0, .int 0, .ref ynotedPort, .ref ynotedGoal, .ref ynotedHop, .ref ynotedAddress, .ref yfitting, .int 0, .ref yrowThen, .int 0, .int 0, .int 0, .ref yimageRow, .ref ypastThen, .ref ynotedPortThen, .ref ynotedGoalThen, .ref ynotedHopThen, .ref ynotedAddressThen, .ref ystatusThen])), (ytape, .inl (kI, 700, .inl f180))] := hD
  refine lv_iinc (v := 20) (lv' := [(6, .int 20), (7, .int p4), (0, .ref m0), (1, .int p0), (2, .int p1), (3, .int p2), (4, .int p3), (5, .int p4)]) hx hb dX11_feed_114 hl (k := 1) rfl (by decide) (by decide) rfl (fun ls hl => ?_)
  refine lv_goto (tgt := 23) hx hb dX11_feed_117 (by decide) ?_
  refine lv_iload hx hb dX11_feed_23 (lv_at hl 0 rfl) ?_
  refine lv_bipush (v := 20) hx hb dX11_feed_25 (by decide) ?_
  refine lv_icmp_ge (tgt := 120) hx hb dX11_feed_27 (by decide) (fun _ => ?_) (fun c9 => absurd (by decide) c9)
  refine lv_aload_n hx hb dX11_feed_120 rfl (lv_at hl 2 rfl) ?_
  refine va_get (D := (dC, dI)) (ci := 11) (v := .int 20) (C := RX11) (T := TX11) (N := 61) hx hb hts hin11 hown hK hP 0 rfl rfl 15 (by decide) (hts (.fieldLink RX11 145 "PathProberModel" "taped" "I") (List.mem_of_getElem? (i := 2) (by decide +kernel))) (fun _ h9 => h9) rfl dX11_feed_121 ?_
  have hP9 := hP.sub (ws' := []) [] rfl
  have hD9 := hD.sub (ws' := []) [] (by decide) rfl
  exact W.iret (v := 20) hx hb hr (fun t ht hW => ⟨⟨20, (), rfl, rfl, by rw [ht]; exact hP9, hD9⟩, hS.F ht⟩) hS.2.2 dX11_feed_124
def rm_k0_copyFrom : Room := { frames := 1, cells := 0, slots := 0, locals := 60 }
set_option maxHeartbeats 4000000 in
set_option maxRecDepth 100000 in
theorem k0_copyFrom (l : Launch) (dC : Nat → ClassId) (dI : Nat → Nat → Nat) (kB kI kJ kZ kC kS : ClassId) (sz : Nat) (xa28 : Nat) (xa29 : Nat) (xa30 : Nat) (xa31 : Nat) (xa32 : Nat) (xa55 : Nat) (xa56 : Nat) (xa57 : Nat) (xa58 : Nat) (xa59 : Nat) (u0 : Int32) (u1 : Int32) (u2 : Int32) (u3 : Int32) (u4 : Int32) (u5 : Int32) (v0 : Int32) (v1 : Int32) (v2 : Int32) (v3 : Int32) (v4 : Int32) (v5 : Int32) (f1 : Nat → Int64) (f2 : Nat → Int32) (f3 : Nat → Int32) (f4 : Nat → Int32) (h1 : Nat → Int64) (h2 : Nat → Int32) (h3 : Nat → Int32) (h4 : Nat → Int32) : Met l yX0_copyFrom wsX0_copyFrom rm_k0_copyFrom (va_Pc [.ref xa28, .ref xa55] (fun U => U.heap.size = sz ∧ va_P (dC, dI) vwCl [(xa28, .inr (0, [.ref xa29, .ref xa30, .ref xa31, .ref xa32, .int u0, .int u1, .int u2, .int u3, .int u4, .int u5])), (xa29, .inl (kJ, 96, .inr (.inl f1))), (xa30, .inl (kI, 30, .inl f2)), (xa31, .inl (kI, 12, .inl f3)), (xa32, .inl (kI, 12, .inl f4)), (xa55, .inr (0, [.ref xa56, .ref xa57, .ref xa58, .ref xa59, .int v0, .int v1, .int v2, .int v3, .int v4, .int v5])), (xa56, .inl (kJ, 96, .inr (.inl h1))), (xa57, .inl (kI, 30, .inl h2)), (xa58, .inl (kI, 12, .inl h3)), (xa59, .inl (kI, 12, .inl h4))] U.heap ∧ kE dC dI kB kI kJ kZ kC kS U ∧ va_D (fun _ => True) [(xa28, .inr (0, [.ref xa29, .ref xa30, .ref xa31, .ref xa32, .int u0, .int u1, .int u2, .int u3, .int u4, .int u5])), (xa29, .inl (kJ, 96, .inr (.inl f1))), (xa30, .inl (kI, 30, .inl f2)), (xa31, .inl (kI, 12, .inl f3)), (xa32, .inl (kI, 12, .inl f4)), (xa55, .inr (0, [.ref xa56, .ref xa57, .ref xa58, .ref xa59, .int v0, .int v1, .int v2, .int v3, .int v4, .int v5])), (xa56, .inl (kJ, 96, .inr (.inl h1))), (xa57, .inl (kI, 30, .inl h2)), (xa58, .inl (kI, 12, .inl h3)), (xa59, .inl (kI, 12, .inl h4))])) (va_Qv (fun (_ : Unit) => True) (fun _ t => ∃ (g1 : Nat → Int64) (g2 : Nat → Int32) (g3 : Nat → Int32) (g4 : Nat → Int32), va_P (dC, dI) vwCl [(xa28, .inr (0, [.ref xa29, .ref xa30, .ref xa31, .ref xa32, .int v0, .int v1, .int v2, .int v3, .int v4, .int v5])), (xa29, .inl (kJ, 96, .inr (.inl g1))), (xa30, .inl (kI, 30, .inl g2)), (xa31, .inl (kI, 12, .inl g3)), (xa32, .inl (kI, 12, .inl g4)), (xa55, .inr (0, [.ref xa56, .ref xa57, .ref xa58, .ref xa59, .int v0, .int v1, .int v2, .int v3, .int v4, .int v5])), (xa56, .inl (kJ, 96, .inr (.inl h1))), (xa57, .inl (kI, 30, .inl h2)), (xa58, .inl (kI, 12, .inl h3)), (xa59, .inl (kI, 12, .inl h4))] t.heap ∧ va_D (va_A [(xa28, .inr (0, [.ref xa29, .ref xa30, .ref xa31, .ref xa32, .int u0, .int u1, .int u2, .int u3, .int u4, .int u5])), (xa29, .inl (kJ, 96, .inr (.inl f1))), (xa30, .inl (kI, 30, .inl f2)), (xa31, .inl (kI, 12, .inl f3)), (xa32, .inl (kI, 12, .inl f4)), (xa55, .inr (0, [.ref xa56, .ref xa57, .ref xa58, .ref xa59, .int v0, .int v1, .int v2, .int v3, .int v4, .int v5])), (xa56, .inl (kJ, 96, .inr (.inl h1))), (xa57, .inl (kI, 30, .inl h2)), (xa58, .inl (kI, 12, .inl h3)), (xa59, .inl (kI, 12, .inl h4))] sz) [(xa28, .inr (0, [.ref xa29, .ref xa30, .ref xa31, .ref xa32, .int v0, .int v1, .int v2, .int v3, .int v4, .int v5])), (xa29, .inl (kJ, 96, .inr (.inl g1))), (xa30, .inl (kI, 30, .inl g2)), (xa31, .inl (kI, 12, .inl g3)), (xa32, .inl (kI, 12, .inl g4)), (xa55, .inr (0, [.ref xa56, .ref xa57, .ref xa58, .ref xa59, .int v0, .int v1, .int v2, .int v3, .int v4, .int v5])), (xa56, .inl (kJ, 96, .inr (.inl h1))), (xa57, .inl (kI, 30, .inl h2)), (xa58, .inl (kI, 12, .inl h3)), (xa59, .inl (kI, 12, .inl h4))]) (va_A [(xa28, .inr (0, [.ref xa29, .ref xa30, .ref xa31, .ref xa32, .int u0, .int u1, .int u2, .int u3, .int u4, .int u5])), (xa29, .inl (kJ, 96, .inr (.inl f1))), (xa30, .inl (kI, 30, .inl f2)), (xa31, .inl (kI, 12, .inl f3)), (xa32, .inl (kI, 12, .inl f4)), (xa55, .inr (0, [.ref xa56, .ref xa57, .ref xa58, .ref xa59, .int v0, .int v1, .int v2, .int v3, .int v4, .int v5])), (xa56, .inl (kJ, 96, .inr (.inl h1))), (xa57, .inl (kI, 30, .inl h2)), (xa58, .inl (kI, 12, .inl h3)), (xa59, .inl (kI, 12, .inl h4))] sz)) 0 0 (va_A [(xa28, .inr (0, [.ref xa29, .ref xa30, .ref xa31, .ref xa32, .int u0, .int u1, .int u2, .int u3, .int u4, .int u5])), (xa29, .inl (kJ, 96, .inr (.inl f1))), (xa30, .inl (kI, 30, .inl f2)), (xa31, .inl (kI, 12, .inl f3)), (xa32, .inl (kI, 12, .inl f4)), (xa55, .inr (0, [.ref xa56, .ref xa57, .ref xa58, .ref xa59, .int v0, .int v1, .int v2, .int v3, .int v4, .int v5])), (xa56, .inl (kJ, 96, .inr (.inl h1))), (xa57, .inl (kI, 30, .inl h2)), (xa58, .inl (kI, 12, .inl h3)), (xa59, .inl (kI, 12, .inl h4))] sz) := by
  refine Met.ofW (cc := cX0_copyFrom) (maxL := 2) (ret := none) (by decide) rfl ?_
  intro p e s m args0 below meth c s₁ B hml hv
  obtain ⟨hargs, hsz, hP, hE, hD0⟩ := hv
  have hx := B.exec
  have hb := B.bytes
  have hr := B.returns
  have hts := atoms_spec (ws := wsX0_copyFrom) B.pre
  have hown : s.vm.findClass RX0 = some m.cls := findClass_of_methodNamed B.named
  have hlocks := B.notSynchronized
  have hK := hE.1
  have hin0 : ∀ w ∈ wsX00, w ∈ wsX0_copyFrom := fun _ h9 => List.mem_cons_of_mem _ (List.mem_append_right _ h9)
  subst hsz
  have hD := hD0.self (sz := s.heap.size)
  generalize hAe : va_A [(xa28, .inr (0, [.ref xa29, .ref xa30, .ref xa31, .ref xa32, .int u0, .int u1, .int u2, .int u3, .int u4, .int u5])), (xa29, .inl (kJ, 96, .inr (.inl f1))), (xa30, .inl (kI, 30, .inl f2)), (xa31, .inl (kI, 12, .inl f3)), (xa32, .inl (kI, 12, .inl f4)), (xa55, .inr (0, [.ref xa56, .ref xa57, .ref xa58, .ref xa59, .int v0, .int v1, .int v2, .int v3, .int v4, .int v5])), (xa56, .inl (kJ, 96, .inr (.inl h1))), (xa57, .inl (kI, 30, .inl h2)), (xa58, .inl (kI, 12, .inl h3)), (xa59, .inl (kI, 12, .inl h4))] s.heap.size = A at hD ⊢
  have hA : ∀ q : Nat, s.heap.size ≤ q → A q := fun q h => by rw [← hAe]; exact Or.inr h
  have hS : va_S A s.heap s.heap [] := va_S.rf
  have hP : va_P (dC, dI) vwCl [(xa28, .inr (0, [.ref xa29, .ref xa30, .ref xa31, .ref xa32, .int u0, .int u1, .int u2, .int u3, .int u4, .int u5])), (xa29, .inl (kJ, 96, .inr (.inl f1))), (xa30, .inl (kI, 30, .inl f2)), (xa31, .inl (kI, 12, .inl f3)), (xa32, .inl (kI, 12, .inl f4)), (xa55, .inr (0, [.ref xa56, .ref xa57, .ref xa58, .ref xa59, .int v0, .int v1, .int v2, .int v3, .int v4, .int v5])), (xa56, .inl (kJ, 96, .inr (.inl h1))), (xa57, .inl (kI, 30, .inl h2)), (xa58, .inl (kI, 12, .inl h3)), (xa59, .inl (kI, 12, .inl h4))] s.heap := hP
  have hl := lv_entry ([.ref xa28, .ref xa55]) (n := 2) (Nat.le_of_ble_eq_true rfl)
  have hla : entryFrame m args0 2 = entryFrame m ([.ref xa28, .ref xa55] : List Value).toArray 2 := by rw [hargs]
  rw [hla, lg_entry_eq]
  generalize (lg_sl ([.ref xa28, .ref xa55]) ++ List.replicate (2 - (lg_sl ([.ref xa28, .ref xa55])).length) Slot.unset).toArray = ls at hl ⊢
  have hl : lv_has ls 2 [(0, .ref xa28), (1, .ref xa55)] := hl
  refine lv_aload_n hx hb dX0_copyFrom_0 rfl (lv_at hl 1 rfl) ?_
  refine va_get (D := (dC, dI)) (ci := 0) (v := .ref xa56) (C := RX0) (T := TX0) (N := 10) hx hb hts hin0 hown hK hP 5 rfl rfl 0 (by decide) (hts (.fieldLink RX0 9 "PathProber$Condition" "seen" "[J") (List.mem_of_getElem? (i := 1) (by decide +kernel))) (fun _ h9 => h9) rfl dX0_copyFrom_1 ?_
  refine lv_iconst (v := 0) hx hb dX0_copyFrom_4 (by decide) ?_
  refine lv_aload_n hx hb dX0_copyFrom_5 rfl (lv_at hl 0 rfl) ?_
  refine va_get (D := (dC, dI)) (ci := 0) (v := .ref xa29) (C := RX0) (T := TX0) (N := 10) hx hb hts hin0 hown hK hP 0 rfl rfl 0 (by decide) (hts (.fieldLink RX0 9 "PathProber$Condition" "seen" "[J") (List.mem_of_getElem? (i := 1) (by decide +kernel))) (fun _ h9 => h9) rfl dX0_copyFrom_6 ?_
  refine lv_iconst (v := 0) hx hb dX0_copyFrom_9 (by decide) ?_
  refine lv_bipush (v := 96) hx hb dX0_copyFrom_10 (by decide) ?_
  refine va_copyl hx hb (by rw [hml]; exact hl.1.symm) hown (hts (.methodLink RX0 47 arraycopyName) (List.mem_of_getElem? (i := 2) (by decide +kernel))) (hts (.native arraycopyName) (List.mem_of_getElem? (i := 3) (by decide +kernel))) (hts (.static arraycopyName) (List.mem_of_getElem? (i := 4) (by decide +kernel))) (hts (.initialized "java/lang/System") (List.mem_of_getElem? (i := 5) (by decide +kernel))) hK hP hD hS 6 1 2 2 rfl rfl rfl rfl rfl (by decide) (by decide) (by decide) (by decide) (by decide) (fun _ _ => rfl) (Nat.le_of_ble_eq_true rfl) (Nat.le_of_ble_eq_true rfl) dX0_copyFrom_12 (fun H locs hP hD hS => ?_)
  have hP : va_P (dC, dI) vwCl [(xa28, .inr (0, [.ref xa29, .ref xa30, .ref xa31, .ref xa32, .int u0, .int u1, .int u2, .int u3, .int u4, .int u5])), (xa29, .inl (kJ, 96, .inr (.inl (va_cpy h1 f1 0 0 96)))), (xa30, .inl (kI, 30, .inl f2)), (xa31, .inl (kI, 12, .inl f3)), (xa32, .inl (kI, 12, .inl f4)), (xa55, .inr (0, [.ref xa56, .ref xa57, .ref xa58, .ref xa59, .int v0, .int v1, .int v2, .int v3, .int v4, .int v5])), (xa56, .inl (kJ, 96, .inr (.inl h1))), (xa57, .inl (kI, 30, .inl h2)), (xa58, .inl (kI, 12, .inl h3)), (xa59, .inl (kI, 12, .inl h4))] H := hP
  have hD : va_D A [(xa28, .inr (0, [.ref xa29, .ref xa30, .ref xa31, .ref xa32, .int u0, .int u1, .int u2, .int u3, .int u4, .int u5])), (xa29, .inl (kJ, 96, .inr (.inl (va_cpy h1 f1 0 0 96)))), (xa30, .inl (kI, 30, .inl f2)), (xa31, .inl (kI, 12, .inl f3)), (xa32, .inl (kI, 12, .inl f4)), (xa55, .inr (0, [.ref xa56, .ref xa57, .ref xa58, .ref xa59, .int v0, .int v1, .int v2, .int v3, .int v4, .int v5])), (xa56, .inl (kJ, 96, .inr (.inl h1))), (xa57, .inl (kI, 30, .inl h2)), (xa58, .inl (kI, 12, .inl h3)), (xa59, .inl (kI, 12, .inl h4))] := hD
  refine lv_aload_n hx hb dX0_copyFrom_15 rfl (lv_at hl 1 rfl) ?_
  refine va_get (D := (dC, dI)) (ci := 0) (v := .ref xa57) (C := RX0) (T := TX0) (N := 10) hx hb hts hin0 hown hK hP 5 rfl rfl 1 (by decide) (hts (.fieldLink RX0 15 "PathProber$Condition" "sent" "[I") (List.mem_of_getElem? (i := 6) (by decide +kernel))) (fun _ h9 => h9) rfl dX0_copyFrom_16 ?_
  refine lv_iconst (v := 0) hx hb dX0_copyFrom_19 (by decide) ?_
  refine lv_aload_n hx hb dX0_copyFrom_20 rfl (lv_at hl 0 rfl) ?_
  refine va_get (D := (dC, dI)) (ci := 0) (v := .ref xa30) (C := RX0) (T := TX0) (N := 10) hx hb hts hin0 hown hK hP 0 rfl rfl 1 (by decide) (hts (.fieldLink RX0 15 "PathProber$Condition" "sent" "[I") (List.mem_of_getElem? (i := 6) (by decide +kernel))) (fun _ h9 => h9) rfl dX0_copyFrom_21 ?_
  refine lv_iconst (v := 0) hx hb dX0_copyFrom_24 (by decide) ?_
  refine lv_bipush (v := 30) hx hb dX0_copyFrom_25 (by decide) ?_
  refine va_copyi hx hb (by rw [hml]; exact hl.1.symm) hown (hts (.methodLink RX0 47 arraycopyName) (List.mem_of_getElem? (i := 2) (by decide +kernel))) (hts (.native arraycopyName) (List.mem_of_getElem? (i := 3) (by decide +kernel))) (hts (.static arraycopyName) (List.mem_of_getElem? (i := 4) (by decide +kernel))) (hts (.initialized "java/lang/System") (List.mem_of_getElem? (i := 5) (by decide +kernel))) hK hP hD hS 7 2 1 1 rfl rfl rfl rfl rfl (by decide) (by decide) (by decide) (by decide) (by decide) (fun _ _ => rfl) (Nat.le_of_ble_eq_true rfl) (Nat.le_of_ble_eq_true rfl) dX0_copyFrom_27 (fun H locs hP hD hS => ?_)
  have hP : va_P (dC, dI) vwCl [(xa28, .inr (0, [.ref xa29, .ref xa30, .ref xa31, .ref xa32, .int u0, .int u1, .int u2, .int u3, .int u4, .int u5])), (xa29, .inl (kJ, 96, .inr (.inl (va_cpy h1 f1 0 0 96)))), (xa30, .inl (kI, 30, .inl (va_cpy h2 f2 0 0 30))), (xa31, .inl (kI, 12, .inl f3)), (xa32, .inl (kI, 12, .inl f4)), (xa55, .inr (0, [.ref xa56, .ref xa57, .ref xa58, .ref xa59, .int v0, .int v1, .int v2, .int v3, .int v4, .int v5])), (xa56, .inl (kJ, 96, .inr (.inl h1))), (xa57, .inl (kI, 30, .inl h2)), (xa58, .inl (kI, 12, .inl h3)), (xa59, .inl (kI, 12, .inl h4))] H := hP
  have hD : va_D A [(xa28, .inr (0, [.ref xa29, .ref xa30, .ref xa31, .ref xa32, .int u0, .int u1, .int u2, .int u3, .int u4, .int u5])), (xa29, .inl (kJ, 96, .inr (.inl (va_cpy h1 f1 0 0 96)))), (xa30, .inl (kI, 30, .inl (va_cpy h2 f2 0 0 30))), (xa31, .inl (kI, 12, .inl f3)), (xa32, .inl (kI, 12, .inl f4)), (xa55, .inr (0, [.ref xa56, .ref xa57, .ref xa58, .ref xa59, .int v0, .int v1, .int v2, .int v3, .int v4, .int v5])), (xa56, .inl (kJ, 96, .inr (.inl h1))), (xa57, .inl (kI, 30, .inl h2)), (xa58, .inl (kI, 12, .inl h3)), (xa59, .inl (kI, 12, .inl h4))] := hD
  refine lv_aload_n hx hb dX0_copyFrom_30 rfl (lv_at hl 1 rfl) ?_
  refine va_get (D := (dC, dI)) (ci := 0) (v := .ref xa58) (C := RX0) (T := TX0) (N := 10) hx hb hts hin0 hown hK hP 5 rfl rfl 2 (by decide) (hts (.fieldLink RX0 19 "PathProber$Condition" "turn" "[I") (List.mem_of_getElem? (i := 7) (by decide +kernel))) (fun _ h9 => h9) rfl dX0_copyFrom_31 ?_
  refine lv_iconst (v := 0) hx hb dX0_copyFrom_34 (by decide) ?_
  refine lv_aload_n hx hb dX0_copyFrom_35 rfl (lv_at hl 0 rfl) ?_
  refine va_get (D := (dC, dI)) (ci := 0) (v := .ref xa31) (C := RX0) (T := TX0) (N := 10) hx hb hts hin0 hown hK hP 0 rfl rfl 2 (by decide) (hts (.fieldLink RX0 19 "PathProber$Condition" "turn" "[I") (List.mem_of_getElem? (i := 7) (by decide +kernel))) (fun _ h9 => h9) rfl dX0_copyFrom_36 ?_
  refine lv_iconst (v := 0) hx hb dX0_copyFrom_39 (by decide) ?_
  refine lv_bipush (v := 12) hx hb dX0_copyFrom_40 (by decide) ?_
  refine va_copyi hx hb (by rw [hml]; exact hl.1.symm) hown (hts (.methodLink RX0 47 arraycopyName) (List.mem_of_getElem? (i := 2) (by decide +kernel))) (hts (.native arraycopyName) (List.mem_of_getElem? (i := 3) (by decide +kernel))) (hts (.static arraycopyName) (List.mem_of_getElem? (i := 4) (by decide +kernel))) (hts (.initialized "java/lang/System") (List.mem_of_getElem? (i := 5) (by decide +kernel))) hK hP hD hS 8 3 1 1 rfl rfl rfl rfl rfl (by decide) (by decide) (by decide) (by decide) (by decide) (fun _ _ => rfl) (Nat.le_of_ble_eq_true rfl) (Nat.le_of_ble_eq_true rfl) dX0_copyFrom_42 (fun H locs hP hD hS => ?_)
  have hP : va_P (dC, dI) vwCl [(xa28, .inr (0, [.ref xa29, .ref xa30, .ref xa31, .ref xa32, .int u0, .int u1, .int u2, .int u3, .int u4, .int u5])), (xa29, .inl (kJ, 96, .inr (.inl (va_cpy h1 f1 0 0 96)))), (xa30, .inl (kI, 30, .inl (va_cpy h2 f2 0 0 30))), (xa31, .inl (kI, 12, .inl (va_cpy h3 f3 0 0 12))), (xa32, .inl (kI, 12, .inl f4)), (xa55, .inr (0, [.ref xa56, .ref xa57, .ref xa58, .ref xa59, .int v0, .int v1, .int v2, .int v3, .int v4, .int v5])), (xa56, .inl (kJ, 96, .inr (.inl h1))), (xa57, .inl (kI, 30, .inl h2)), (xa58, .inl (kI, 12, .inl h3)), (xa59, .inl (kI, 12, .inl h4))] H := hP
  have hD : va_D A [(xa28, .inr (0, [.ref xa29, .ref xa30, .ref xa31, .ref xa32, .int u0, .int u1, .int u2, .int u3, .int u4, .int u5])), (xa29, .inl (kJ, 96, .inr (.inl (va_cpy h1 f1 0 0 96)))), (xa30, .inl (kI, 30, .inl (va_cpy h2 f2 0 0 30))), (xa31, .inl (kI, 12, .inl (va_cpy h3 f3 0 0 12))), (xa32, .inl (kI, 12, .inl f4)), (xa55, .inr (0, [.ref xa56, .ref xa57, .ref xa58, .ref xa59, .int v0, .int v1, .int v2, .int v3, .int v4, .int v5])), (xa56, .inl (kJ, 96, .inr (.inl h1))), (xa57, .inl (kI, 30, .inl h2)), (xa58, .inl (kI, 12, .inl h3)), (xa59, .inl (kI, 12, .inl h4))] := hD
  refine lv_aload_n hx hb dX0_copyFrom_45 rfl (lv_at hl 1 rfl) ?_
  refine va_get (D := (dC, dI)) (ci := 0) (v := .ref xa59) (C := RX0) (T := TX0) (N := 10) hx hb hts hin0 hown hK hP 5 rfl rfl 3 (by decide) (hts (.fieldLink RX0 22 "PathProber$Condition" "counter" "[I") (List.mem_of_getElem? (i := 8) (by decide +kernel))) (fun _ h9 => h9) rfl dX0_copyFrom_46 ?_
  refine lv_iconst (v := 0) hx hb dX0_copyFrom_49 (by decide) ?_
  refine lv_aload_n hx hb dX0_copyFrom_50 rfl (lv_at hl 0 rfl) ?_
  refine va_get (D := (dC, dI)) (ci := 0) (v := .ref xa32) (C := RX0) (T := TX0) (N := 10) hx hb hts hin0 hown hK hP 0 rfl rfl 3 (by decide) (hts (.fieldLink RX0 22 "PathProber$Condition" "counter" "[I") (List.mem_of_getElem? (i := 8) (by decide +kernel))) (fun _ h9 => h9) rfl dX0_copyFrom_51 ?_
  refine lv_iconst (v := 0) hx hb dX0_copyFrom_54 (by decide) ?_
  refine lv_bipush (v := 12) hx hb dX0_copyFrom_55 (by decide) ?_
  refine va_copyi hx hb (by rw [hml]; exact hl.1.symm) hown (hts (.methodLink RX0 47 arraycopyName) (List.mem_of_getElem? (i := 2) (by decide +kernel))) (hts (.native arraycopyName) (List.mem_of_getElem? (i := 3) (by decide +kernel))) (hts (.static arraycopyName) (List.mem_of_getElem? (i := 4) (by decide +kernel))) (hts (.initialized "java/lang/System") (List.mem_of_getElem? (i := 5) (by decide +kernel))) hK hP hD hS 9 4 1 1 rfl rfl rfl rfl rfl (by decide) (by decide) (by decide) (by decide) (by decide) (fun _ _ => rfl) (Nat.le_of_ble_eq_true rfl) (Nat.le_of_ble_eq_true rfl) dX0_copyFrom_57 (fun H locs hP hD hS => ?_)
  have hP : va_P (dC, dI) vwCl [(xa28, .inr (0, [.ref xa29, .ref xa30, .ref xa31, .ref xa32, .int u0, .int u1, .int u2, .int u3, .int u4, .int u5])), (xa29, .inl (kJ, 96, .inr (.inl (va_cpy h1 f1 0 0 96)))), (xa30, .inl (kI, 30, .inl (va_cpy h2 f2 0 0 30))), (xa31, .inl (kI, 12, .inl (va_cpy h3 f3 0 0 12))), (xa32, .inl (kI, 12, .inl (va_cpy h4 f4 0 0 12))), (xa55, .inr (0, [.ref xa56, .ref xa57, .ref xa58, .ref xa59, .int v0, .int v1, .int v2, .int v3, .int v4, .int v5])), (xa56, .inl (kJ, 96, .inr (.inl h1))), (xa57, .inl (kI, 30, .inl h2)), (xa58, .inl (kI, 12, .inl h3)), (xa59, .inl (kI, 12, .inl h4))] H := hP
  have hD : va_D A [(xa28, .inr (0, [.ref xa29, .ref xa30, .ref xa31, .ref xa32, .int u0, .int u1, .int u2, .int u3, .int u4, .int u5])), (xa29, .inl (kJ, 96, .inr (.inl (va_cpy h1 f1 0 0 96)))), (xa30, .inl (kI, 30, .inl (va_cpy h2 f2 0 0 30))), (xa31, .inl (kI, 12, .inl (va_cpy h3 f3 0 0 12))), (xa32, .inl (kI, 12, .inl (va_cpy h4 f4 0 0 12))), (xa55, .inr (0, [.ref xa56, .ref xa57, .ref xa58, .ref xa59, .int v0, .int v1, .int v2, .int v3, .int v4, .int v5])), (xa56, .inl (kJ, 96, .inr (.inl h1))), (xa57, .inl (kI, 30, .inl h2)), (xa58, .inl (kI, 12, .inl h3)), (xa59, .inl (kI, 12, .inl h4))] := hD
  refine lv_aload_n hx hb dX0_copyFrom_60 rfl (lv_at hl 0 rfl) ?_
  refine lv_aload_n hx hb dX0_copyFrom_61 rfl (lv_at hl 1 rfl) ?_
  refine va_get (D := (dC, dI)) (ci := 0) (v := .int v0) (C := RX0) (T := TX0) (N := 10) hx hb hts hin0 hown hK hP 5 rfl rfl 4 (by decide) (hts (.fieldLink RX0 25 "PathProber$Condition" "loss" "I") (List.mem_of_getElem? (i := 9) (by decide +kernel))) (fun _ h9 => h9) rfl dX0_copyFrom_62 ?_
  refine va_put (D := (dC, dI)) (ci := 0) (v := .int v0) (ty := .int) (C := RX0) (T := TX0) (N := 10) hx hb hts hin0 tyX0 tyX0_ok nmX0 hown hK hP hD hS 0 rfl rfl 4 (by decide) (hts (.fieldLink RX0 25 "PathProber$Condition" "loss" "I") (List.mem_of_getElem? (i := 9) (by decide +kernel))) (fun _ h9 => h9) rfl (by decide +kernel) rfl rfl (Nat.le_of_ble_eq_true rfl) dX0_copyFrom_65 (fun H locs hP hD hS => ?_)
  have hP : va_P (dC, dI) vwCl [(xa28, .inr (0, [.ref xa29, .ref xa30, .ref xa31, .ref xa32, .int v0, .int u1, .int u2, .int u3, .int u4, .int u5])), (xa29, .inl (kJ, 96, .inr (.inl (va_cpy h1 f1 0 0 96)))), (xa30, .inl (kI, 30, .inl (va_cpy h2 f2 0 0 30))), (xa31, .inl (kI, 12, .inl (va_cpy h3 f3 0 0 12))), (xa32, .inl (kI, 12, .inl (va_cpy h4 f4 0 0 12))), (xa55, .inr (0, [.ref xa56, .ref xa57, .ref xa58, .ref xa59, .int v0, .int v1, .int v2, .int v3, .int v4, .int v5])), (xa56, .inl (kJ, 96, .inr (.inl h1))), (xa57, .inl (kI, 30, .inl h2)), (xa58, .inl (kI, 12, .inl h3)), (xa59, .inl (kI, 12, .inl h4))] H := hP
  have hD : va_D A [(xa28, .inr (0, [.ref xa29, .ref xa30, .ref xa31, .ref xa32, .int v0, .int u1, .int u2, .int u3, .int u4, .int u5])), (xa29, .inl (kJ, 96, .inr (.inl (va_cpy h1 f1 0 0 96)))), (xa30, .inl (kI, 30, .inl (va_cpy h2 f2 0 0 30))), (xa31, .inl (kI, 12, .inl (va_cpy h3 f3 0 0 12))), (xa32, .inl (kI, 12, .inl (va_cpy h4 f4 0 0 12))), (xa55, .inr (0, [.ref xa56, .ref xa57, .ref xa58, .ref xa59, .int v0, .int v1, .int v2, .int v3, .int v4, .int v5])), (xa56, .inl (kJ, 96, .inr (.inl h1))), (xa57, .inl (kI, 30, .inl h2)), (xa58, .inl (kI, 12, .inl h3)), (xa59, .inl (kI, 12, .inl h4))] := hD
  refine lv_aload_n hx hb dX0_copyFrom_68 rfl (lv_at hl 0 rfl) ?_
  refine lv_aload_n hx hb dX0_copyFrom_69 rfl (lv_at hl 1 rfl) ?_
  refine va_get (D := (dC, dI)) (ci := 0) (v := .int v1) (C := RX0) (T := TX0) (N := 10) hx hb hts hin0 hown hK hP 5 rfl rfl 5 (by decide) (hts (.fieldLink RX0 29 "PathProber$Condition" "opened" "I") (List.mem_of_getElem? (i := 10) (by decide +kernel))) (fun _ h9 => h9) rfl dX0_copyFrom_70 ?_
  refine va_put (D := (dC, dI)) (ci := 0) (v := .int v1) (ty := .int) (C := RX0) (T := TX0) (N := 10) hx hb hts hin0 tyX0 tyX0_ok nmX0 hown hK hP hD hS 0 rfl rfl 5 (by decide) (hts (.fieldLink RX0 29 "PathProber$Condition" "opened" "I") (List.mem_of_getElem? (i := 10) (by decide +kernel))) (fun _ h9 => h9) rfl (by decide +kernel) rfl rfl (Nat.le_of_ble_eq_true rfl) dX0_copyFrom_73 (fun H locs hP hD hS => ?_)
  have hP : va_P (dC, dI) vwCl [(xa28, .inr (0, [.ref xa29, .ref xa30, .ref xa31, .ref xa32, .int v0, .int v1, .int u2, .int u3, .int u4, .int u5])), (xa29, .inl (kJ, 96, .inr (.inl (va_cpy h1 f1 0 0 96)))), (xa30, .inl (kI, 30, .inl (va_cpy h2 f2 0 0 30))), (xa31, .inl (kI, 12, .inl (va_cpy h3 f3 0 0 12))), (xa32, .inl (kI, 12, .inl (va_cpy h4 f4 0 0 12))), (xa55, .inr (0, [.ref xa56, .ref xa57, .ref xa58, .ref xa59, .int v0, .int v1, .int v2, .int v3, .int v4, .int v5])), (xa56, .inl (kJ, 96, .inr (.inl h1))), (xa57, .inl (kI, 30, .inl h2)), (xa58, .inl (kI, 12, .inl h3)), (xa59, .inl (kI, 12, .inl h4))] H := hP
  have hD : va_D A [(xa28, .inr (0, [.ref xa29, .ref xa30, .ref xa31, .ref xa32, .int v0, .int v1, .int u2, .int u3, .int u4, .int u5])), (xa29, .inl (kJ, 96, .inr (.inl (va_cpy h1 f1 0 0 96)))), (xa30, .inl (kI, 30, .inl (va_cpy h2 f2 0 0 30))), (xa31, .inl (kI, 12, .inl (va_cpy h3 f3 0 0 12))), (xa32, .inl (kI, 12, .inl (va_cpy h4 f4 0 0 12))), (xa55, .inr (0, [.ref xa56, .ref xa57, .ref xa58, .ref xa59, .int v0, .int v1, .int v2, .int v3, .int v4, .int v5])), (xa56, .inl (kJ, 96, .inr (.inl h1))), (xa57, .inl (kI, 30, .inl h2)), (xa58, .inl (kI, 12, .inl h3)), (xa59, .inl (kI, 12, .inl h4))] := hD
  refine lv_aload_n hx hb dX0_copyFrom_76 rfl (lv_at hl 0 rfl) ?_
  refine lv_aload_n hx hb dX0_copyFrom_77 rfl (lv_at hl 1 rfl) ?_
  refine va_get (D := (dC, dI)) (ci := 0) (v := .int v2) (C := RX0) (T := TX0) (N := 10) hx hb hts hin0 hown hK hP 5 rfl rfl 6 (by decide) (hts (.fieldLink RX0 32 "PathProber$Condition" "open" "I") (List.mem_of_getElem? (i := 11) (by decide +kernel))) (fun _ h9 => h9) rfl dX0_copyFrom_78 ?_
  refine va_put (D := (dC, dI)) (ci := 0) (v := .int v2) (ty := .int) (C := RX0) (T := TX0) (N := 10) hx hb hts hin0 tyX0 tyX0_ok nmX0 hown hK hP hD hS 0 rfl rfl 6 (by decide) (hts (.fieldLink RX0 32 "PathProber$Condition" "open" "I") (List.mem_of_getElem? (i := 11) (by decide +kernel))) (fun _ h9 => h9) rfl (by decide +kernel) rfl rfl (Nat.le_of_ble_eq_true rfl) dX0_copyFrom_81 (fun H locs hP hD hS => ?_)
  have hP : va_P (dC, dI) vwCl [(xa28, .inr (0, [.ref xa29, .ref xa30, .ref xa31, .ref xa32, .int v0, .int v1, .int v2, .int u3, .int u4, .int u5])), (xa29, .inl (kJ, 96, .inr (.inl (va_cpy h1 f1 0 0 96)))), (xa30, .inl (kI, 30, .inl (va_cpy h2 f2 0 0 30))), (xa31, .inl (kI, 12, .inl (va_cpy h3 f3 0 0 12))), (xa32, .inl (kI, 12, .inl (va_cpy h4 f4 0 0 12))), (xa55, .inr (0, [.ref xa56, .ref xa57, .ref xa58, .ref xa59, .int v0, .int v1, .int v2, .int v3, .int v4, .int v5])), (xa56, .inl (kJ, 96, .inr (.inl h1))), (xa57, .inl (kI, 30, .inl h2)), (xa58, .inl (kI, 12, .inl h3)), (xa59, .inl (kI, 12, .inl h4))] H := hP
  have hD : va_D A [(xa28, .inr (0, [.ref xa29, .ref xa30, .ref xa31, .ref xa32, .int v0, .int v1, .int v2, .int u3, .int u4, .int u5])), (xa29, .inl (kJ, 96, .inr (.inl (va_cpy h1 f1 0 0 96)))), (xa30, .inl (kI, 30, .inl (va_cpy h2 f2 0 0 30))), (xa31, .inl (kI, 12, .inl (va_cpy h3 f3 0 0 12))), (xa32, .inl (kI, 12, .inl (va_cpy h4 f4 0 0 12))), (xa55, .inr (0, [.ref xa56, .ref xa57, .ref xa58, .ref xa59, .int v0, .int v1, .int v2, .int v3, .int v4, .int v5])), (xa56, .inl (kJ, 96, .inr (.inl h1))), (xa57, .inl (kI, 30, .inl h2)), (xa58, .inl (kI, 12, .inl h3)), (xa59, .inl (kI, 12, .inl h4))] := hD
  refine lv_aload_n hx hb dX0_copyFrom_84 rfl (lv_at hl 0 rfl) ?_
  refine lv_aload_n hx hb dX0_copyFrom_85 rfl (lv_at hl 1 rfl) ?_
  refine va_get (D := (dC, dI)) (ci := 0) (v := .int v3) (C := RX0) (T := TX0) (N := 10) hx hb hts hin0 hown hK hP 5 rfl rfl 7 (by decide) (hts (.fieldLink RX0 35 "PathProber$Condition" "deep" "I") (List.mem_of_getElem? (i := 12) (by decide +kernel))) (fun _ h9 => h9) rfl dX0_copyFrom_86 ?_
  refine va_put (D := (dC, dI)) (ci := 0) (v := .int v3) (ty := .int) (C := RX0) (T := TX0) (N := 10) hx hb hts hin0 tyX0 tyX0_ok nmX0 hown hK hP hD hS 0 rfl rfl 7 (by decide) (hts (.fieldLink RX0 35 "PathProber$Condition" "deep" "I") (List.mem_of_getElem? (i := 12) (by decide +kernel))) (fun _ h9 => h9) rfl (by decide +kernel) rfl rfl (Nat.le_of_ble_eq_true rfl) dX0_copyFrom_89 (fun H locs hP hD hS => ?_)
  have hP : va_P (dC, dI) vwCl [(xa28, .inr (0, [.ref xa29, .ref xa30, .ref xa31, .ref xa32, .int v0, .int v1, .int v2, .int v3, .int u4, .int u5])), (xa29, .inl (kJ, 96, .inr (.inl (va_cpy h1 f1 0 0 96)))), (xa30, .inl (kI, 30, .inl (va_cpy h2 f2 0 0 30))), (xa31, .inl (kI, 12, .inl (va_cpy h3 f3 0 0 12))), (xa32, .inl (kI, 12, .inl (va_cpy h4 f4 0 0 12))), (xa55, .inr (0, [.ref xa56, .ref xa57, .ref xa58, .ref xa59, .int v0, .int v1, .int v2, .int v3, .int v4, .int v5])), (xa56, .inl (kJ, 96, .inr (.inl h1))), (xa57, .inl (kI, 30, .inl h2)), (xa58, .inl (kI, 12, .inl h3)), (xa59, .inl (kI, 12, .inl h4))] H := hP
  have hD : va_D A [(xa28, .inr (0, [.ref xa29, .ref xa30, .ref xa31, .ref xa32, .int v0, .int v1, .int v2, .int v3, .int u4, .int u5])), (xa29, .inl (kJ, 96, .inr (.inl (va_cpy h1 f1 0 0 96)))), (xa30, .inl (kI, 30, .inl (va_cpy h2 f2 0 0 30))), (xa31, .inl (kI, 12, .inl (va_cpy h3 f3 0 0 12))), (xa32, .inl (kI, 12, .inl (va_cpy h4 f4 0 0 12))), (xa55, .inr (0, [.ref xa56, .ref xa57, .ref xa58, .ref xa59, .int v0, .int v1, .int v2, .int v3, .int v4, .int v5])), (xa56, .inl (kJ, 96, .inr (.inl h1))), (xa57, .inl (kI, 30, .inl h2)), (xa58, .inl (kI, 12, .inl h3)), (xa59, .inl (kI, 12, .inl h4))] := hD
  refine lv_aload_n hx hb dX0_copyFrom_92 rfl (lv_at hl 0 rfl) ?_
  refine lv_aload_n hx hb dX0_copyFrom_93 rfl (lv_at hl 1 rfl) ?_
  refine va_get (D := (dC, dI)) (ci := 0) (v := .int v4) (C := RX0) (T := TX0) (N := 10) hx hb hts hin0 hown hK hP 5 rfl rfl 8 (by decide) (hts (.fieldLink RX0 38 "PathProber$Condition" "muted" "I") (List.mem_of_getElem? (i := 13) (by decide +kernel))) (fun _ h9 => h9) rfl dX0_copyFrom_94 ?_
  refine va_put (D := (dC, dI)) (ci := 0) (v := .int v4) (ty := .int) (C := RX0) (T := TX0) (N := 10) hx hb hts hin0 tyX0 tyX0_ok nmX0 hown hK hP hD hS 0 rfl rfl 8 (by decide) (hts (.fieldLink RX0 38 "PathProber$Condition" "muted" "I") (List.mem_of_getElem? (i := 13) (by decide +kernel))) (fun _ h9 => h9) rfl (by decide +kernel) rfl rfl (Nat.le_of_ble_eq_true rfl) dX0_copyFrom_97 (fun H locs hP hD hS => ?_)
  have hP : va_P (dC, dI) vwCl [(xa28, .inr (0, [.ref xa29, .ref xa30, .ref xa31, .ref xa32, .int v0, .int v1, .int v2, .int v3, .int v4, .int u5])), (xa29, .inl (kJ, 96, .inr (.inl (va_cpy h1 f1 0 0 96)))), (xa30, .inl (kI, 30, .inl (va_cpy h2 f2 0 0 30))), (xa31, .inl (kI, 12, .inl (va_cpy h3 f3 0 0 12))), (xa32, .inl (kI, 12, .inl (va_cpy h4 f4 0 0 12))), (xa55, .inr (0, [.ref xa56, .ref xa57, .ref xa58, .ref xa59, .int v0, .int v1, .int v2, .int v3, .int v4, .int v5])), (xa56, .inl (kJ, 96, .inr (.inl h1))), (xa57, .inl (kI, 30, .inl h2)), (xa58, .inl (kI, 12, .inl h3)), (xa59, .inl (kI, 12, .inl h4))] H := hP
  have hD : va_D A [(xa28, .inr (0, [.ref xa29, .ref xa30, .ref xa31, .ref xa32, .int v0, .int v1, .int v2, .int v3, .int v4, .int u5])), (xa29, .inl (kJ, 96, .inr (.inl (va_cpy h1 f1 0 0 96)))), (xa30, .inl (kI, 30, .inl (va_cpy h2 f2 0 0 30))), (xa31, .inl (kI, 12, .inl (va_cpy h3 f3 0 0 12))), (xa32, .inl (kI, 12, .inl (va_cpy h4 f4 0 0 12))), (xa55, .inr (0, [.ref xa56, .ref xa57, .ref xa58, .ref xa59, .int v0, .int v1, .int v2, .int v3, .int v4, .int v5])), (xa56, .inl (kJ, 96, .inr (.inl h1))), (xa57, .inl (kI, 30, .inl h2)), (xa58, .inl (kI, 12, .inl h3)), (xa59, .inl (kI, 12, .inl h4))] := hD
  refine lv_aload_n hx hb dX0_copyFrom_100 rfl (lv_at hl 0 rfl) ?_
  refine lv_aload_n hx hb dX0_copyFrom_101 rfl (lv_at hl 1 rfl) ?_
  refine va_get (D := (dC, dI)) (ci := 0) (v := .int v5) (C := RX0) (T := TX0) (N := 10) hx hb hts hin0 hown hK hP 5 rfl rfl 9 (by decide) (hts (.fieldLink RX0 41 "PathProber$Condition" "lost" "I") (List.mem_of_getElem? (i := 14) (by decide +kernel))) (fun _ h9 => h9) rfl dX0_copyFrom_102 ?_
  refine va_put (D := (dC, dI)) (ci := 0) (v := .int v5) (ty := .int) (C := RX0) (T := TX0) (N := 10) hx hb hts hin0 tyX0 tyX0_ok nmX0 hown hK hP hD hS 0 rfl rfl 9 (by decide) (hts (.fieldLink RX0 41 "PathProber$Condition" "lost" "I") (List.mem_of_getElem? (i := 14) (by decide +kernel))) (fun _ h9 => h9) rfl (by decide +kernel) rfl rfl (Nat.le_of_ble_eq_true rfl) dX0_copyFrom_105 (fun H locs hP hD hS => ?_)
  have hP : va_P (dC, dI) vwCl [(xa28, .inr (0, [.ref xa29, .ref xa30, .ref xa31, .ref xa32, .int v0, .int v1, .int v2, .int v3, .int v4, .int v5])), (xa29, .inl (kJ, 96, .inr (.inl (va_cpy h1 f1 0 0 96)))), (xa30, .inl (kI, 30, .inl (va_cpy h2 f2 0 0 30))), (xa31, .inl (kI, 12, .inl (va_cpy h3 f3 0 0 12))), (xa32, .inl (kI, 12, .inl (va_cpy h4 f4 0 0 12))), (xa55, .inr (0, [.ref xa56, .ref xa57, .ref xa58, .ref xa59, .int v0, .int v1, .int v2, .int v3, .int v4, .int v5])), (xa56, .inl (kJ, 96, .inr (.inl h1))), (xa57, .inl (kI, 30, .inl h2)), (xa58, .inl (kI, 12, .inl h3)), (xa59, .inl (kI, 12, .inl h4))] H := hP
  have hD : va_D A [(xa28, .inr (0, [.ref xa29, .ref xa30, .ref xa31, .ref xa32, .int v0, .int v1, .int v2, .int v3, .int v4, .int v5])), (xa29, .inl (kJ, 96, .inr (.inl (va_cpy h1 f1 0 0 96)))), (xa30, .inl (kI, 30, .inl (va_cpy h2 f2 0 0 30))), (xa31, .inl (kI, 12, .inl (va_cpy h3 f3 0 0 12))), (xa32, .inl (kI, 12, .inl (va_cpy h4 f4 0 0 12))), (xa55, .inr (0, [.ref xa56, .ref xa57, .ref xa58, .ref xa59, .int v0, .int v1, .int v2, .int v3, .int v4, .int v5])), (xa56, .inl (kJ, 96, .inr (.inl h1))), (xa57, .inl (kI, 30, .inl h2)), (xa58, .inl (kI, 12, .inl h3)), (xa59, .inl (kI, 12, .inl h4))] := hD
  have hP9 := hP.sub (ws' := [(xa28, .inr (0, [.ref xa29, .ref xa30, .ref xa31, .ref xa32, .int v0, .int v1, .int v2, .int v3, .int v4, .int v5])), (xa29, .inl (kJ, 96, .inr (.inl (va_cpy h1 f1 0 0 96)))), (xa30, .inl (kI, 30, .inl (va_cpy h2 f2 0 0 30))), (xa31, .inl (kI, 12, .inl (va_cpy h3 f3 0 0 12))), (xa32, .inl (kI, 12, .inl (va_cpy h4 f4 0 0 12))), (xa55, .inr (0, [.ref xa56, .ref xa57, .ref xa58, .ref xa59, .int v0, .int v1, .int v2, .int v3, .int v4, .int v5])), (xa56, .inl (kJ, 96, .inr (.inl h1))), (xa57, .inl (kI, 30, .inl h2)), (xa58, .inl (kI, 12, .inl h3)), (xa59, .inl (kI, 12, .inl h4))]) [0, 1, 2, 3, 4, 5, 6, 7, 8, 9] rfl
  have hD9 := hD.sub (ws' := [(xa28, .inr (0, [.ref xa29, .ref xa30, .ref xa31, .ref xa32, .int v0, .int v1, .int v2, .int v3, .int v4, .int v5])), (xa29, .inl (kJ, 96, .inr (.inl (va_cpy h1 f1 0 0 96)))), (xa30, .inl (kI, 30, .inl (va_cpy h2 f2 0 0 30))), (xa31, .inl (kI, 12, .inl (va_cpy h3 f3 0 0 12))), (xa32, .inl (kI, 12, .inl (va_cpy h4 f4 0 0 12))), (xa55, .inr (0, [.ref xa56, .ref xa57, .ref xa58, .ref xa59, .int v0, .int v1, .int v2, .int v3, .int v4, .int v5])), (xa56, .inl (kJ, 96, .inr (.inl h1))), (xa57, .inl (kI, 30, .inl h2)), (xa58, .inl (kI, 12, .inl h3)), (xa59, .inl (kI, 12, .inl h4))]) [0, 1, 2, 3, 4, 5, 6, 7, 8, 9] (by decide) rfl
  exact W.vret hx hb hr (fun t ht hW => ⟨⟨(), rfl, trivial, va_cpy h1 f1 0 0 96, va_cpy h2 f2 0 0 30, va_cpy h3 f3 0 0 12, va_cpy h4 f4 0 0 12, by rw [ht]; exact hP9, hD9⟩, hS.F ht⟩) hS.2.2 dX0_copyFrom_108
def rm_k0_forgetAllSeen : Room := { frames := 0, cells := 0, slots := 0, locals := 0 }
set_option maxHeartbeats 4000000 in
set_option maxRecDepth 100000 in
theorem k0_forgetAllSeen (l : Launch) (dC : Nat → ClassId) (dI : Nat → Nat → Nat) (kB kI kJ kZ kC kS : ClassId) (sz : Nat) (xa28 : Nat) (xa29 : Nat) (xa30 : Nat) (xa31 : Nat) (xa32 : Nat) (u0 : Int32) (u1 : Int32) (u2 : Int32) (u3 : Int32) (u4 : Int32) (u5 : Int32) (f1 : Nat → Int64) (f2 : Nat → Int32) (f3 : Nat → Int32) (f4 : Nat → Int32) : Met l yX0_forgetAllSeen wsX0_forgetAllSeen rm_k0_forgetAllSeen (va_Pc [.ref xa28] (fun U => U.heap.size = sz ∧ va_P (dC, dI) vwCl [(xa28, .inr (0, [.ref xa29, .ref xa30, .ref xa31, .ref xa32, .int u0, .int u1, .int u2, .int u3, .int u4, .int u5])), (xa29, .inl (kJ, 96, .inr (.inl f1))), (xa30, .inl (kI, 30, .inl f2)), (xa31, .inl (kI, 12, .inl f3)), (xa32, .inl (kI, 12, .inl f4))] U.heap ∧ kE dC dI kB kI kJ kZ kC kS U ∧ va_D (fun _ => True) [(xa28, .inr (0, [.ref xa29, .ref xa30, .ref xa31, .ref xa32, .int u0, .int u1, .int u2, .int u3, .int u4, .int u5])), (xa29, .inl (kJ, 96, .inr (.inl f1))), (xa30, .inl (kI, 30, .inl f2)), (xa31, .inl (kI, 12, .inl f3)), (xa32, .inl (kI, 12, .inl f4))])) (va_Qv (fun (_ : Unit) => True) (fun _ t => ∃ (g1 : Nat → Int64) (g2 : Nat → Int32), va_P (dC, dI) vwCl [(xa28, .inr (0, [.ref xa29, .ref xa30, .ref xa31, .ref xa32, .int u0, .int u1, .int u2, .int u3, .int u4, .int u5])), (xa29, .inl (kJ, 96, .inr (.inl g1))), (xa30, .inl (kI, 30, .inl g2)), (xa31, .inl (kI, 12, .inl f3)), (xa32, .inl (kI, 12, .inl f4))] t.heap ∧ va_D (va_A [(xa28, .inr (0, [.ref xa29, .ref xa30, .ref xa31, .ref xa32, .int u0, .int u1, .int u2, .int u3, .int u4, .int u5])), (xa29, .inl (kJ, 96, .inr (.inl f1))), (xa30, .inl (kI, 30, .inl f2)), (xa31, .inl (kI, 12, .inl f3)), (xa32, .inl (kI, 12, .inl f4))] sz) [(xa28, .inr (0, [.ref xa29, .ref xa30, .ref xa31, .ref xa32, .int u0, .int u1, .int u2, .int u3, .int u4, .int u5])), (xa29, .inl (kJ, 96, .inr (.inl g1))), (xa30, .inl (kI, 30, .inl g2)), (xa31, .inl (kI, 12, .inl f3)), (xa32, .inl (kI, 12, .inl f4))]) (va_A [(xa28, .inr (0, [.ref xa29, .ref xa30, .ref xa31, .ref xa32, .int u0, .int u1, .int u2, .int u3, .int u4, .int u5])), (xa29, .inl (kJ, 96, .inr (.inl f1))), (xa30, .inl (kI, 30, .inl f2)), (xa31, .inl (kI, 12, .inl f3)), (xa32, .inl (kI, 12, .inl f4))] sz)) 0 0 (va_A [(xa28, .inr (0, [.ref xa29, .ref xa30, .ref xa31, .ref xa32, .int u0, .int u1, .int u2, .int u3, .int u4, .int u5])), (xa29, .inl (kJ, 96, .inr (.inl f1))), (xa30, .inl (kI, 30, .inl f2)), (xa31, .inl (kI, 12, .inl f3)), (xa32, .inl (kI, 12, .inl f4))] sz) := by
  refine Met.ofW (cc := cX0_forgetAllSeen) (maxL := 2) (ret := none) (by decide) rfl ?_
  intro p e s m args0 below meth c s₁ B hml hv
  obtain ⟨hargs, hsz, hP, hE, hD0⟩ := hv
  have hx := B.exec
  have hb := B.bytes
  have hr := B.returns
  have hts := atoms_spec (ws := wsX0_forgetAllSeen) B.pre
  have hown : s.vm.findClass RX0 = some m.cls := findClass_of_methodNamed B.named
  have hlocks := B.notSynchronized
  have hK := hE.1
  have hin0 : ∀ w ∈ wsX00, w ∈ wsX0_forgetAllSeen := fun _ h9 => List.mem_cons_of_mem _ (List.mem_append_right _ h9)
  subst hsz
  have hD := hD0.self (sz := s.heap.size)
  generalize hAe : va_A [(xa28, .inr (0, [.ref xa29, .ref xa30, .ref xa31, .ref xa32, .int u0, .int u1, .int u2, .int u3, .int u4, .int u5])), (xa29, .inl (kJ, 96, .inr (.inl f1))), (xa30, .inl (kI, 30, .inl f2)), (xa31, .inl (kI, 12, .inl f3)), (xa32, .inl (kI, 12, .inl f4))] s.heap.size = A at hD ⊢
  have hA : ∀ q : Nat, s.heap.size ≤ q → A q := fun q h => by rw [← hAe]; exact Or.inr h
  have hS : va_S A s.heap s.heap [] := va_S.rf
  have hP : va_P (dC, dI) vwCl [(xa28, .inr (0, [.ref xa29, .ref xa30, .ref xa31, .ref xa32, .int u0, .int u1, .int u2, .int u3, .int u4, .int u5])), (xa29, .inl (kJ, 96, .inr (.inl f1))), (xa30, .inl (kI, 30, .inl f2)), (xa31, .inl (kI, 12, .inl f3)), (xa32, .inl (kI, 12, .inl f4))] s.heap := hP
  have hl := lv_entry ([.ref xa28]) (n := 2) (Nat.le_of_ble_eq_true rfl)
  have hla : entryFrame m args0 2 = entryFrame m ([.ref xa28] : List Value).toArray 2 := by rw [hargs]
  rw [hla, lg_entry_eq]
  generalize (lg_sl ([.ref xa28]) ++ List.replicate (2 - (lg_sl ([.ref xa28])).length) Slot.unset).toArray = ls at hl ⊢
  have hl : lv_has ls 2 [(0, .ref xa28)] := hl
  refine lv_iconst (v := 0) hx hb dX0_forgetAllSeen_0 (by decide) ?_
  refine lv_istore_n (lv' := [(1, .int 0), (0, .ref xa28)]) hx hb dX0_forgetAllSeen_1 rfl hl (by decide) rfl (fun ls hl => ?_)
  have hloop2 : ∀ (n : Nat) (i : Nat) (a1f : Nat → Int64) (H : Heap) (locs : List Loc) (ls : Array Slot), i + n = 96 → va_P (dC, dI) vwCl [(xa28, .inr (0, [.ref xa29, .ref xa30, .ref xa31, .ref xa32, .int u0, .int u1, .int u2, .int u3, .int u4, .int u5])), (xa29, .inl (kJ, 96, .inr (.inl a1f))), (xa30, .inl (kI, 30, .inl f2)), (xa31, .inl (kI, 12, .inl f3)), (xa32, .inl (kI, 12, .inl f4))] H → va_D A [(xa28, .inr (0, [.ref xa29, .ref xa30, .ref xa31, .ref xa32, .int u0, .int u1, .int u2, .int u3, .int u4, .int u5])), (xa29, .inl (kJ, 96, .inr (.inl a1f))), (xa30, .inl (kI, 30, .inl f2)), (xa31, .inl (kI, 12, .inl f3)), (xa32, .inl (kI, 12, .inl f4))] → va_S A s.heap H locs → lv_has ls 2 [(1, .int (nI i)), (0, .ref xa28)] → W p l e (headSpec wsX0_forgetAllSeen rm_k0_forgetAllSeen).room s m args0 below meth c H locs 0 0 (MQ below (va_Qv (fun (_ : Unit) => True) (fun _ t => ∃ (g1 : Nat → Int64) (g2 : Nat → Int32), va_P (dC, dI) vwCl [(xa28, .inr (0, [.ref xa29, .ref xa30, .ref xa31, .ref xa32, .int u0, .int u1, .int u2, .int u3, .int u4, .int u5])), (xa29, .inl (kJ, 96, .inr (.inl g1))), (xa30, .inl (kI, 30, .inl g2)), (xa31, .inl (kI, 12, .inl f3)), (xa32, .inl (kI, 12, .inl f4))] t.heap ∧ va_D A [(xa28, .inr (0, [.ref xa29, .ref xa30, .ref xa31, .ref xa32, .int u0, .int u1, .int u2, .int u3, .int u4, .int u5])), (xa29, .inl (kJ, 96, .inr (.inl g1))), (xa30, .inl (kI, 30, .inl g2)), (xa31, .inl (kI, 12, .inl f3)), (xa32, .inl (kI, 12, .inl f4))]) A) args0 s 0 0 A) (F0 m 2 ls []) := by
    intro n
    induction n with
    | zero =>
      intro i a1f H locs ls hi hP hD hS hl
      refine lv_iload_n hx hb dX0_forgetAllSeen_2 rfl (lv_at hl 0 rfl) ?_
      refine lv_bipush (v := 96) hx hb dX0_forgetAllSeen_3 (by decide) ?_
      refine lv_icmp_ge (tgt := 21) hx hb dX0_forgetAllSeen_5 (by decide) (fun _ => ?_) (fun c9 => absurd (by have h9 : i = 96 := (by omega); subst h9; decide) c9)
      refine lv_iconst (v := 0) hx hb dX0_forgetAllSeen_21 (by decide) ?_
      refine lv_istore_n (lv' := [(1, .int 0), (0, .ref xa28)]) hx hb dX0_forgetAllSeen_22 rfl hl (by decide) rfl (fun ls hl => ?_)
      have hloop23 : ∀ (n : Nat) (i : Nat) (b1f : Nat → Int32) (H : Heap) (locs : List Loc) (ls : Array Slot), i + n = 30 → va_P (dC, dI) vwCl [(xa28, .inr (0, [.ref xa29, .ref xa30, .ref xa31, .ref xa32, .int u0, .int u1, .int u2, .int u3, .int u4, .int u5])), (xa29, .inl (kJ, 96, .inr (.inl a1f))), (xa30, .inl (kI, 30, .inl b1f)), (xa31, .inl (kI, 12, .inl f3)), (xa32, .inl (kI, 12, .inl f4))] H → va_D A [(xa28, .inr (0, [.ref xa29, .ref xa30, .ref xa31, .ref xa32, .int u0, .int u1, .int u2, .int u3, .int u4, .int u5])), (xa29, .inl (kJ, 96, .inr (.inl a1f))), (xa30, .inl (kI, 30, .inl b1f)), (xa31, .inl (kI, 12, .inl f3)), (xa32, .inl (kI, 12, .inl f4))] → va_S A s.heap H locs → lv_has ls 2 [(1, .int (nI i)), (0, .ref xa28)] → W p l e (headSpec wsX0_forgetAllSeen rm_k0_forgetAllSeen).room s m args0 below meth c H locs 0 0 (MQ below (va_Qv (fun (_ : Unit) => True) (fun _ t => ∃ (g1 : Nat → Int64) (g2 : Nat → Int32), va_P (dC, dI) vwCl [(xa28, .inr (0, [.ref xa29, .ref xa30, .ref xa31, .ref xa32, .int u0, .int u1, .int u2, .int u3, .int u4, .int u5])), (xa29, .inl (kJ, 96, .inr (.inl g1))), (xa30, .inl (kI, 30, .inl g2)), (xa31, .inl (kI, 12, .inl f3)), (xa32, .inl (kI, 12, .inl f4))] t.heap ∧ va_D A [(xa28, .inr (0, [.ref xa29, .ref xa30, .ref xa31, .ref xa32, .int u0, .int u1, .int u2, .int u3, .int u4, .int u5])), (xa29, .inl (kJ, 96, .inr (.inl g1))), (xa30, .inl (kI, 30, .inl g2)), (xa31, .inl (kI, 12, .inl f3)), (xa32, .inl (kI, 12, .inl f4))]) A) args0 s 0 0 A) (F0 m 23 ls []) := by
        intro n
        induction n with
        | zero =>
          intro i b1f H locs ls hi hP hD hS hl
          refine lv_iload_n hx hb dX0_forgetAllSeen_23 rfl (lv_at hl 0 rfl) ?_
          refine lv_bipush (v := 30) hx hb dX0_forgetAllSeen_24 (by decide) ?_
          refine lv_icmp_ge (tgt := 42) hx hb dX0_forgetAllSeen_26 (by decide) (fun _ => ?_) (fun c9 => absurd (by have h9 : i = 30 := (by omega); subst h9; decide) c9)
          have hP9 := hP.sub (ws' := [(xa28, .inr (0, [.ref xa29, .ref xa30, .ref xa31, .ref xa32, .int u0, .int u1, .int u2, .int u3, .int u4, .int u5])), (xa29, .inl (kJ, 96, .inr (.inl a1f))), (xa30, .inl (kI, 30, .inl b1f)), (xa31, .inl (kI, 12, .inl f3)), (xa32, .inl (kI, 12, .inl f4))]) [0, 1, 2, 3, 4] rfl
          have hD9 := hD.sub (ws' := [(xa28, .inr (0, [.ref xa29, .ref xa30, .ref xa31, .ref xa32, .int u0, .int u1, .int u2, .int u3, .int u4, .int u5])), (xa29, .inl (kJ, 96, .inr (.inl a1f))), (xa30, .inl (kI, 30, .inl b1f)), (xa31, .inl (kI, 12, .inl f3)), (xa32, .inl (kI, 12, .inl f4))]) [0, 1, 2, 3, 4] (by decide) rfl
          exact W.vret hx hb hr (fun t ht hW => ⟨⟨(), rfl, trivial, a1f, b1f, by rw [ht]; exact hP9, hD9⟩, hS.F ht⟩) hS.2.2 dX0_forgetAllSeen_42
        | succ n ih =>
          intro i b1f H locs ls hi hP hD hS hl
          refine lv_iload_n hx hb dX0_forgetAllSeen_23 rfl (lv_at hl 0 rfl) ?_
          refine lv_bipush (v := 30) hx hb dX0_forgetAllSeen_24 (by decide) ?_
          refine lv_icmp_ge (tgt := 42) hx hb dX0_forgetAllSeen_26 (by decide) (fun c9 => absurd c9 (nI_ge (a := i) (b := 30) (by omega) (by decide))) (fun _ => ?_)
          refine lv_aload_n hx hb dX0_forgetAllSeen_29 rfl (lv_at hl 1 rfl) ?_
          refine va_get (D := (dC, dI)) (ci := 0) (v := .ref xa30) (C := RX0) (T := TX0) (N := 10) hx hb hts hin0 hown hK hP 0 rfl rfl 1 (by decide) (hts (.fieldLink RX0 15 "PathProber$Condition" "sent" "[I") (List.mem_of_getElem? (i := 2) (by decide +kernel))) (fun _ h9 => h9) rfl dX0_forgetAllSeen_30 ?_
          refine lv_iload_n hx hb dX0_forgetAllSeen_33 rfl (lv_at hl 0 rfl) ?_
          refine lv_iconst (v := 0) hx hb dX0_forgetAllSeen_34 (by decide) ?_
          refine va_iast hx hb hK hP hD hS 2 1 rfl rfl (vp_in_nI (by omega) (by decide)) dX0_forgetAllSeen_35 (fun H locs hP hD hS => ?_)
          have hP : va_P (dC, dI) vwCl [(xa28, .inr (0, [.ref xa29, .ref xa30, .ref xa31, .ref xa32, .int u0, .int u1, .int u2, .int u3, .int u4, .int u5])), (xa29, .inl (kJ, 96, .inr (.inl a1f))), (xa30, .inl (kI, 30, .inl (upd b1f (nI i).toNatClampNeg 0))), (xa31, .inl (kI, 12, .inl f3)), (xa32, .inl (kI, 12, .inl f4))] H := hP
          have hD : va_D A [(xa28, .inr (0, [.ref xa29, .ref xa30, .ref xa31, .ref xa32, .int u0, .int u1, .int u2, .int u3, .int u4, .int u5])), (xa29, .inl (kJ, 96, .inr (.inl a1f))), (xa30, .inl (kI, 30, .inl (upd b1f (nI i).toNatClampNeg 0))), (xa31, .inl (kI, 12, .inl f3)), (xa32, .inl (kI, 12, .inl f4))] := hD
          refine lv_iinc (v := nI (i + 1)) (lv' := [(1, .int (nI (i + 1))), (0, .ref xa28)]) hx hb dX0_forgetAllSeen_36 hl (k := 0) rfl (nI_1 i) (by decide) rfl (fun ls hl => ?_)
          refine lv_goto (tgt := 23) hx hb dX0_forgetAllSeen_39 (by decide) ?_
          exact ih (i + 1) (upd b1f (nI i).toNatClampNeg 0) _ _ _ (by omega) (hP.sub [0, 1, 2, 3, 4] rfl) (hD.sub [0, 1, 2, 3, 4] (by decide) rfl) hS (lv_sub hl [0, 1] rfl)
      exact hloop23 30 0 f2 _ _ _ (Nat.zero_add _) hP hD hS (lv_sub hl [0, 1] rfl)
    | succ n ih =>
      intro i a1f H locs ls hi hP hD hS hl
      refine lv_iload_n hx hb dX0_forgetAllSeen_2 rfl (lv_at hl 0 rfl) ?_
      refine lv_bipush (v := 96) hx hb dX0_forgetAllSeen_3 (by decide) ?_
      refine lv_icmp_ge (tgt := 21) hx hb dX0_forgetAllSeen_5 (by decide) (fun c9 => absurd c9 (nI_ge (a := i) (b := 96) (by omega) (by decide))) (fun _ => ?_)
      refine lv_aload_n hx hb dX0_forgetAllSeen_8 rfl (lv_at hl 1 rfl) ?_
      refine va_get (D := (dC, dI)) (ci := 0) (v := .ref xa29) (C := RX0) (T := TX0) (N := 10) hx hb hts hin0 hown hK hP 0 rfl rfl 0 (by decide) (hts (.fieldLink RX0 9 "PathProber$Condition" "seen" "[J") (List.mem_of_getElem? (i := 1) (by decide +kernel))) (fun _ h9 => h9) rfl dX0_forgetAllSeen_9 ?_
      refine lv_iload_n hx hb dX0_forgetAllSeen_12 rfl (lv_at hl 0 rfl) ?_
      refine lv_lconst (v := 0) hx hb dX0_forgetAllSeen_13 (by decide) ?_
      refine va_last hx hb hK hP hD hS 1 2 rfl rfl (vp_in_nI (by omega) (by decide)) dX0_forgetAllSeen_14 (fun H locs hP hD hS => ?_)
      have hP : va_P (dC, dI) vwCl [(xa28, .inr (0, [.ref xa29, .ref xa30, .ref xa31, .ref xa32, .int u0, .int u1, .int u2, .int u3, .int u4, .int u5])), (xa29, .inl (kJ, 96, .inr (.inl (vp_updL a1f (nI i).toNatClampNeg 0)))), (xa30, .inl (kI, 30, .inl f2)), (xa31, .inl (kI, 12, .inl f3)), (xa32, .inl (kI, 12, .inl f4))] H := hP
      have hD : va_D A [(xa28, .inr (0, [.ref xa29, .ref xa30, .ref xa31, .ref xa32, .int u0, .int u1, .int u2, .int u3, .int u4, .int u5])), (xa29, .inl (kJ, 96, .inr (.inl (vp_updL a1f (nI i).toNatClampNeg 0)))), (xa30, .inl (kI, 30, .inl f2)), (xa31, .inl (kI, 12, .inl f3)), (xa32, .inl (kI, 12, .inl f4))] := hD
      refine lv_iinc (v := nI (i + 1)) (lv' := [(1, .int (nI (i + 1))), (0, .ref xa28)]) hx hb dX0_forgetAllSeen_15 hl (k := 0) rfl (nI_1 i) (by decide) rfl (fun ls hl => ?_)
      refine lv_goto (tgt := 2) hx hb dX0_forgetAllSeen_18 (by decide) ?_
      exact ih (i + 1) (vp_updL a1f (nI i).toNatClampNeg 0) _ _ _ (by omega) (hP.sub [0, 1, 2, 3, 4] rfl) (hD.sub [0, 1, 2, 3, 4] (by decide) rfl) hS (lv_sub hl [0, 1] rfl)
  exact hloop2 96 0 f1 _ _ _ (Nat.zero_add _) hP hD hS (lv_sub hl [0, 1] rfl)
def rm_k0_beginAnew : Room := { frames := 1, cells := 0, slots := 0, locals := 21 }
set_option maxHeartbeats 4000000 in
set_option maxRecDepth 100000 in
theorem k0_beginAnew (l : Launch) (dC : Nat → ClassId) (dI : Nat → Nat → Nat) (kB kI kJ kZ kC kS : ClassId) (sz : Nat) (xa28 : Nat) (xa29 : Nat) (xa30 : Nat) (xa31 : Nat) (xa32 : Nat) (u0 : Int32) (u1 : Int32) (u2 : Int32) (u3 : Int32) (u4 : Int32) (u5 : Int32) (f1 : Nat → Int64) (f2 : Nat → Int32) (f3 : Nat → Int32) (f4 : Nat → Int32) (p0 : Int32) : Met l yX0_beginAnew wsX0_beginAnew rm_k0_beginAnew (va_Pc [.ref xa28, .int p0] (fun U => U.heap.size = sz ∧ va_P (dC, dI) vwCl [(xa28, .inr (0, [.ref xa29, .ref xa30, .ref xa31, .ref xa32, .int u0, .int u1, .int u2, .int u3, .int u4, .int u5])), (xa29, .inl (kJ, 96, .inr (.inl f1))), (xa30, .inl (kI, 30, .inl f2)), (xa31, .inl (kI, 12, .inl f3)), (xa32, .inl (kI, 12, .inl f4))] U.heap ∧ kE dC dI kB kI kJ kZ kC kS U ∧ va_D (fun _ => True) [(xa28, .inr (0, [.ref xa29, .ref xa30, .ref xa31, .ref xa32, .int u0, .int u1, .int u2, .int u3, .int u4, .int u5])), (xa29, .inl (kJ, 96, .inr (.inl f1))), (xa30, .inl (kI, 30, .inl f2)), (xa31, .inl (kI, 12, .inl f3)), (xa32, .inl (kI, 12, .inl f4))])) (va_Qv (fun (_ : Unit) => True) (fun _ t => ∃ (g1 : Nat → Int64) (g2 : Nat → Int32) (g3 : Nat → Int32) (g4 : Nat → Int32), va_P (dC, dI) vwCl [(xa28, .inr (0, [.ref xa29, .ref xa30, .ref xa31, .ref xa32, .int p0, .int 0, .int 0, .int 0, .int 0, .int 0])), (xa29, .inl (kJ, 96, .inr (.inl g1))), (xa30, .inl (kI, 30, .inl g2)), (xa31, .inl (kI, 12, .inl g3)), (xa32, .inl (kI, 12, .inl g4))] t.heap ∧ va_D (va_A [(xa28, .inr (0, [.ref xa29, .ref xa30, .ref xa31, .ref xa32, .int u0, .int u1, .int u2, .int u3, .int u4, .int u5])), (xa29, .inl (kJ, 96, .inr (.inl f1))), (xa30, .inl (kI, 30, .inl f2)), (xa31, .inl (kI, 12, .inl f3)), (xa32, .inl (kI, 12, .inl f4))] sz) [(xa28, .inr (0, [.ref xa29, .ref xa30, .ref xa31, .ref xa32, .int p0, .int 0, .int 0, .int 0, .int 0, .int 0])), (xa29, .inl (kJ, 96, .inr (.inl g1))), (xa30, .inl (kI, 30, .inl g2)), (xa31, .inl (kI, 12, .inl g3)), (xa32, .inl (kI, 12, .inl g4))]) (va_A [(xa28, .inr (0, [.ref xa29, .ref xa30, .ref xa31, .ref xa32, .int u0, .int u1, .int u2, .int u3, .int u4, .int u5])), (xa29, .inl (kJ, 96, .inr (.inl f1))), (xa30, .inl (kI, 30, .inl f2)), (xa31, .inl (kI, 12, .inl f3)), (xa32, .inl (kI, 12, .inl f4))] sz)) 0 0 (va_A [(xa28, .inr (0, [.ref xa29, .ref xa30, .ref xa31, .ref xa32, .int u0, .int u1, .int u2, .int u3, .int u4, .int u5])), (xa29, .inl (kJ, 96, .inr (.inl f1))), (xa30, .inl (kI, 30, .inl f2)), (xa31, .inl (kI, 12, .inl f3)), (xa32, .inl (kI, 12, .inl f4))] sz) := by
  refine Met.ofW (cc := cX0_beginAnew) (maxL := 3) (ret := none) (by decide) rfl ?_
  intro p e s m args0 below meth c s₁ B hml hv
  obtain ⟨hargs, hsz, hP, hE, hD0⟩ := hv
  have hx := B.exec
  have hb := B.bytes
  have hr := B.returns
  have hts := atoms_spec (ws := wsX0_beginAnew) B.pre
  have hown : s.vm.findClass RX0 = some m.cls := findClass_of_methodNamed B.named
  have hlocks := B.notSynchronized
  have hK := hE.1
  have hin0 : ∀ w ∈ wsX00, w ∈ wsX0_beginAnew := fun _ h9 => List.mem_cons_of_mem _ (List.mem_append_right _ h9)
  subst hsz
  have hD := hD0.self (sz := s.heap.size)
  generalize hAe : va_A [(xa28, .inr (0, [.ref xa29, .ref xa30, .ref xa31, .ref xa32, .int u0, .int u1, .int u2, .int u3, .int u4, .int u5])), (xa29, .inl (kJ, 96, .inr (.inl f1))), (xa30, .inl (kI, 30, .inl f2)), (xa31, .inl (kI, 12, .inl f3)), (xa32, .inl (kI, 12, .inl f4))] s.heap.size = A at hD ⊢
  have hA : ∀ q : Nat, s.heap.size ≤ q → A q := fun q h => by rw [← hAe]; exact Or.inr h
  have hS : va_S A s.heap s.heap [] := va_S.rf
  have hP : va_P (dC, dI) vwCl [(xa28, .inr (0, [.ref xa29, .ref xa30, .ref xa31, .ref xa32, .int u0, .int u1, .int u2, .int u3, .int u4, .int u5])), (xa29, .inl (kJ, 96, .inr (.inl f1))), (xa30, .inl (kI, 30, .inl f2)), (xa31, .inl (kI, 12, .inl f3)), (xa32, .inl (kI, 12, .inl f4))] s.heap := hP
  have hl := lv_entry ([.ref xa28, .int p0]) (n := 3) (Nat.le_of_ble_eq_true rfl)
  have hla : entryFrame m args0 3 = entryFrame m ([.ref xa28, .int p0] : List Value).toArray 3 := by rw [hargs]
  rw [hla, lg_entry_eq]
  generalize (lg_sl ([.ref xa28, .int p0]) ++ List.replicate (3 - (lg_sl ([.ref xa28, .int p0])).length) Slot.unset).toArray = ls at hl ⊢
  have hl : lv_has ls 3 [(0, .ref xa28), (1, .int p0)] := hl
  refine lv_aload_n hx hb dX0_beginAnew_0 rfl (lv_at hl 0 rfl) ?_
  have hPc := hP.sub (ws' := [(xa28, .inr (0, [.ref xa29, .ref xa30, .ref xa31, .ref xa32, .int u0, .int u1, .int u2, .int u3, .int u4, .int u5])), (xa29, .inl (kJ, 96, .inr (.inl f1))), (xa30, .inl (kI, 30, .inl f2)), (xa31, .inl (kI, 12, .inl f3)), (xa32, .inl (kI, 12, .inl f4))]) [0, 1, 2, 3, 4] rfl
  have hDc := hD.sub (ws' := [(xa28, .inr (0, [.ref xa29, .ref xa30, .ref xa31, .ref xa32, .int u0, .int u1, .int u2, .int u3, .int u4, .int u5])), (xa29, .inl (kJ, 96, .inr (.inl f1))), (xa30, .inl (kI, 30, .inl f2)), (xa31, .inl (kI, 12, .inl f3)), (xa32, .inl (kI, 12, .inl f4))]) [0, 1, 2, 3, 4] (by decide) rfl
  have hFc := va_free (wc := [(xa28, .inr (0, [.ref xa29, .ref xa30, .ref xa31, .ref xa32, .int u0, .int u1, .int u2, .int u3, .int u4, .int u5])), (xa29, .inl (kJ, 96, .inr (.inl f1))), (xa30, .inl (kI, 30, .inl f2)), (xa31, .inl (kI, 12, .inl f3)), (xa32, .inl (kI, 12, .inl f4))]) hD hS hA [0, 1, 2, 3, 4] rfl
  refine va_callv (va_runV (As := []) (rest := []) ⟨hx, hb, hml, hown, hts⟩ (k0_forgetAllSeen l dC dI kB kI kJ kZ kC kS s.heap.size xa28 xa29 xa30 xa31 xa32 u0 u1 u2 u3 u4 u5 f1 f2 f3 f4) (cwV 0 hts gX0_beginAnew_X0_forgetAllSeen rfl rfl rfl (by decide +kernel) ⟨Nat.le_of_ble_eq_true rfl, Nat.le_of_ble_eq_true rfl⟩) ⟨fun a U g mk q => by obtain ⟨q0, q1, qP, qE, qD⟩ := q; exact ⟨q0, q1, qP, kE_call qE, qD⟩, va_recv hK hP (ci := 0) (q0 := 0) rfl rfl, fun U hU hW => ⟨rfl, by rw [hU], by rw [hU]; exact hPc, kE_warm hW hE, hDc.weaken (fun _ _ _ _ => trivial)⟩⟩ rfl rfl hl.1 rfl (lv_room (Nat.le_of_ble_eq_true rfl)) dX0_beginAnew_1 ⟨Nat.le_of_ble_eq_true rfl, Nat.le_of_ble_eq_true rfl⟩) hS (fun q _ h => hFc q h) hFc (fun u t H1 locs ht hvm w2 hB hz1 hk1 hS => ?_)
  obtain ⟨g_3, g_4, hP1, hD1⟩ := hB
  rw [ht] at hP1
  try dsimp only at w2
  obtain ⟨hP, hD⟩ := va_join (wr := []) (w1 := [(xa28, .inr (0, [.ref xa29, .ref xa30, .ref xa31, .ref xa32, .int u0, .int u1, .int u2, .int u3, .int u4, .int u5])), (xa29, .inl (kJ, 96, .inr (.inl g_3))), (xa30, .inl (kI, 30, .inl g_4)), (xa31, .inl (kI, 12, .inl f3)), (xa32, .inl (kI, 12, .inl f4))]) hP hD [0, 1, 2, 3, 4] [] rfl rfl (by decide) (by decide) hk1 hFc hP1 hD1
  generalize H1 = H at hP hS ⊢
  have hP : va_P (dC, dI) vwCl [(xa28, .inr (0, [.ref xa29, .ref xa30, .ref xa31, .ref xa32, .int u0, .int u1, .int u2, .int u3, .int u4, .int u5])), (xa29, .inl (kJ, 96, .inr (.inl g_3))), (xa30, .inl (kI, 30, .inl g_4)), (xa31, .inl (kI, 12, .inl f3)), (xa32, .inl (kI, 12, .inl f4))] H := hP
  have hD : va_D A [(xa28, .inr (0, [.ref xa29, .ref xa30, .ref xa31, .ref xa32, .int u0, .int u1, .int u2, .int u3, .int u4, .int u5])), (xa29, .inl (kJ, 96, .inr (.inl g_3))), (xa30, .inl (kI, 30, .inl g_4)), (xa31, .inl (kI, 12, .inl f3)), (xa32, .inl (kI, 12, .inl f4))] := hD
  refine W.widen (k := 0) (n := 0) (Nat.le_of_ble_eq_true rfl) (Nat.le_of_ble_eq_true rfl) ?_
  refine lv_iconst (v := 0) hx hb dX0_beginAnew_4 (by decide) ?_
  refine lv_istore_n (lv' := [(2, .int 0), (0, .ref xa28), (1, .int p0)]) hx hb dX0_beginAnew_5 rfl hl (by decide) rfl (fun ls hl => ?_)
  refine lv_iload_n hx hb dX0_beginAnew_6 rfl (lv_at hl 0 rfl) ?_
  refine lv_bipush (v := 12) hx hb dX0_beginAnew_7 (by decide) ?_
  refine lv_icmp_ge (tgt := 32) hx hb dX0_beginAnew_9 (by decide) (fun c9 => absurd c9 (by decide)) (fun _ => ?_)
  refine lv_aload_n hx hb dX0_beginAnew_12 rfl (lv_at hl 1 rfl) ?_
  refine va_get (D := (dC, dI)) (ci := 0) (v := .ref xa31) (C := RX0) (T := TX0) (N := 10) hx hb hts hin0 hown hK hP 0 rfl rfl 2 (by decide) (hts (.fieldLink RX0 19 "PathProber$Condition" "turn" "[I") (List.mem_of_getElem? (i := 1) (by decide +kernel))) (fun _ h9 => h9) rfl dX0_beginAnew_13 ?_
  refine lv_iload_n hx hb dX0_beginAnew_16 rfl (lv_at hl 0 rfl) ?_
  refine lv_iconst (v := 0) hx hb dX0_beginAnew_17 (by decide) ?_
  refine va_iast hx hb hK hP hD hS 3 1 rfl rfl (vp_in_nI (n := 0) (by decide) (by decide)) dX0_beginAnew_18 (fun H locs hP hD hS => ?_)
  have hP : va_P (dC, dI) vwCl [(xa28, .inr (0, [.ref xa29, .ref xa30, .ref xa31, .ref xa32, .int u0, .int u1, .int u2, .int u3, .int u4, .int u5])), (xa29, .inl (kJ, 96, .inr (.inl g_3))), (xa30, .inl (kI, 30, .inl g_4)), (xa31, .inl (kI, 12, .inl (upd f3 0 0))), (xa32, .inl (kI, 12, .inl f4))] H := hP
  have hD : va_D A [(xa28, .inr (0, [.ref xa29, .ref xa30, .ref xa31, .ref xa32, .int u0, .int u1, .int u2, .int u3, .int u4, .int u5])), (xa29, .inl (kJ, 96, .inr (.inl g_3))), (xa30, .inl (kI, 30, .inl g_4)), (xa31, .inl (kI, 12, .inl (upd f3 0 0))), (xa32, .inl (kI, 12, .inl f4))] := hD
  generalize (upd f3 0 0) = f5 at hP hD
  refine lv_aload_n hx hb dX0_beginAnew_19 rfl (lv_at hl 1 rfl) ?_
  refine va_get (D := (dC, dI)) (ci := 0) (v := .ref xa32) (C := RX0) (T := TX0) (N := 10) hx hb hts hin0 hown hK hP 0 rfl rfl 3 (by decide) (hts (.fieldLink RX0 22 "PathProber$Condition" "counter" "[I") (List.mem_of_getElem? (i := 2) (by decide +kernel))) (fun _ h9 => h9) rfl dX0_beginAnew_20 ?_
  refine lv_iload_n hx hb dX0_beginAnew_23 rfl (lv_at hl 0 rfl) ?_
  refine lv_iconst (v := 0) hx hb dX0_beginAnew_24 (by decide) ?_
  refine va_iast hx hb hK hP hD hS 4 1 rfl rfl (vp_in_nI (n := 0) (by decide) (by decide)) dX0_beginAnew_25 (fun H locs hP hD hS => ?_)
  have hP : va_P (dC, dI) vwCl [(xa28, .inr (0, [.ref xa29, .ref xa30, .ref xa31, .ref xa32, .int u0, .int u1, .int u2, .int u3, .int u4, .int u5])), (xa29, .inl (kJ, 96, .inr (.inl g_3))), (xa30, .inl (kI, 30, .inl g_4)), (xa31, .inl (kI, 12, .inl f5)), (xa32, .inl (kI, 12, .inl (upd f4 0 0)))] H := hP
  have hD : va_D A [(xa28, .inr (0, [.ref xa29, .ref xa30, .ref xa31, .ref xa32, .int u0, .int u1, .int u2, .int u3, .int u4, .int u5])), (xa29, .inl (kJ, 96, .inr (.inl g_3))), (xa30, .inl (kI, 30, .inl g_4)), (xa31, .inl (kI, 12, .inl f5)), (xa32, .inl (kI, 12, .inl (upd f4 0 0)))] := hD
  generalize (upd f4 0 0) = f6 at hP hD
  refine lv_iinc (v := 1) (lv' := [(2, .int 1), (0, .ref xa28), (1, .int p0)]) hx hb dX0_beginAnew_26 hl (k := 0) rfl (by decide) (by decide) rfl (fun ls hl => ?_)
  refine lv_goto (tgt := 6) hx hb dX0_beginAnew_29 (by decide) ?_
  refine lv_iload_n hx hb dX0_beginAnew_6 rfl (lv_at hl 0 rfl) ?_
  refine lv_bipush (v := 12) hx hb dX0_beginAnew_7 (by decide) ?_
  refine lv_icmp_ge (tgt := 32) hx hb dX0_beginAnew_9 (by decide) (fun c9 => absurd c9 (by decide)) (fun _ => ?_)
  refine lv_aload_n hx hb dX0_beginAnew_12 rfl (lv_at hl 1 rfl) ?_
  refine va_get (D := (dC, dI)) (ci := 0) (v := .ref xa31) (C := RX0) (T := TX0) (N := 10) hx hb hts hin0 hown hK hP 0 rfl rfl 2 (by decide) (hts (.fieldLink RX0 19 "PathProber$Condition" "turn" "[I") (List.mem_of_getElem? (i := 1) (by decide +kernel))) (fun _ h9 => h9) rfl dX0_beginAnew_13 ?_
  refine lv_iload_n hx hb dX0_beginAnew_16 rfl (lv_at hl 0 rfl) ?_
  refine lv_iconst (v := 0) hx hb dX0_beginAnew_17 (by decide) ?_
  refine va_iast hx hb hK hP hD hS 3 1 rfl rfl (vp_in_nI (n := 1) (by decide) (by decide)) dX0_beginAnew_18 (fun H locs hP hD hS => ?_)
  have hP : va_P (dC, dI) vwCl [(xa28, .inr (0, [.ref xa29, .ref xa30, .ref xa31, .ref xa32, .int u0, .int u1, .int u2, .int u3, .int u4, .int u5])), (xa29, .inl (kJ, 96, .inr (.inl g_3))), (xa30, .inl (kI, 30, .inl g_4)), (xa31, .inl (kI, 12, .inl (upd f5 1 0))), (xa32, .inl (kI, 12, .inl f6))] H := hP
  have hD : va_D A [(xa28, .inr (0, [.ref xa29, .ref xa30, .ref xa31, .ref xa32, .int u0, .int u1, .int u2, .int u3, .int u4, .int u5])), (xa29, .inl (kJ, 96, .inr (.inl g_3))), (xa30, .inl (kI, 30, .inl g_4)), (xa31, .inl (kI, 12, .inl (upd f5 1 0))), (xa32, .inl (kI, 12, .inl f6))] := hD
  generalize (upd f5 1 0) = f7 at hP hD
  refine lv_aload_n hx hb dX0_beginAnew_19 rfl (lv_at hl 1 rfl) ?_
  refine va_get (D := (dC, dI)) (ci := 0) (v := .ref xa32) (C := RX0) (T := TX0) (N := 10) hx hb hts hin0 hown hK hP 0 rfl rfl 3 (by decide) (hts (.fieldLink RX0 22 "PathProber$Condition" "counter" "[I") (List.mem_of_getElem? (i := 2) (by decide +kernel))) (fun _ h9 => h9) rfl dX0_beginAnew_20 ?_
  refine lv_iload_n hx hb dX0_beginAnew_23 rfl (lv_at hl 0 rfl) ?_
  refine lv_iconst (v := 0) hx hb dX0_beginAnew_24 (by decide) ?_
  refine va_iast hx hb hK hP hD hS 4 1 rfl rfl (vp_in_nI (n := 1) (by decide) (by decide)) dX0_beginAnew_25 (fun H locs hP hD hS => ?_)
  have hP : va_P (dC, dI) vwCl [(xa28, .inr (0, [.ref xa29, .ref xa30, .ref xa31, .ref xa32, .int u0, .int u1, .int u2, .int u3, .int u4, .int u5])), (xa29, .inl (kJ, 96, .inr (.inl g_3))), (xa30, .inl (kI, 30, .inl g_4)), (xa31, .inl (kI, 12, .inl f7)), (xa32, .inl (kI, 12, .inl (upd f6 1 0)))] H := hP
  have hD : va_D A [(xa28, .inr (0, [.ref xa29, .ref xa30, .ref xa31, .ref xa32, .int u0, .int u1, .int u2, .int u3, .int u4, .int u5])), (xa29, .inl (kJ, 96, .inr (.inl g_3))), (xa30, .inl (kI, 30, .inl g_4)), (xa31, .inl (kI, 12, .inl f7)), (xa32, .inl (kI, 12, .inl (upd f6 1 0)))] := hD
  generalize (upd f6 1 0) = f8 at hP hD
  refine lv_iinc (v := 2) (lv' := [(2, .int 2), (0, .ref xa28), (1, .int p0)]) hx hb dX0_beginAnew_26 hl (k := 0) rfl (by decide) (by decide) rfl (fun ls hl => ?_)
  refine lv_goto (tgt := 6) hx hb dX0_beginAnew_29 (by decide) ?_
  refine lv_iload_n hx hb dX0_beginAnew_6 rfl (lv_at hl 0 rfl) ?_
  refine lv_bipush (v := 12) hx hb dX0_beginAnew_7 (by decide) ?_
  refine lv_icmp_ge (tgt := 32) hx hb dX0_beginAnew_9 (by decide) (fun c9 => absurd c9 (by decide)) (fun _ => ?_)
  refine lv_aload_n hx hb dX0_beginAnew_12 rfl (lv_at hl 1 rfl) ?_
  refine va_get (D := (dC, dI)) (ci := 0) (v := .ref xa31) (C := RX0) (T := TX0) (N := 10) hx hb hts hin0 hown hK hP 0 rfl rfl 2 (by decide) (hts (.fieldLink RX0 19 "PathProber$Condition" "turn" "[I") (List.mem_of_getElem? (i := 1) (by decide +kernel))) (fun _ h9 => h9) rfl dX0_beginAnew_13 ?_
  refine lv_iload_n hx hb dX0_beginAnew_16 rfl (lv_at hl 0 rfl) ?_
  refine lv_iconst (v := 0) hx hb dX0_beginAnew_17 (by decide) ?_
  refine va_iast hx hb hK hP hD hS 3 1 rfl rfl (vp_in_nI (n := 2) (by decide) (by decide)) dX0_beginAnew_18 (fun H locs hP hD hS => ?_)
  have hP : va_P (dC, dI) vwCl [(xa28, .inr (0, [.ref xa29, .ref xa30, .ref xa31, .ref xa32, .int u0, .int u1, .int u2, .int u3, .int u4, .int u5])), (xa29, .inl (kJ, 96, .inr (.inl g_3))), (xa30, .inl (kI, 30, .inl g_4)), (xa31, .inl (kI, 12, .inl (upd f7 2 0))), (xa32, .inl (kI, 12, .inl f8))] H := hP
  have hD : va_D A [(xa28, .inr (0, [.ref xa29, .ref xa30, .ref xa31, .ref xa32, .int u0, .int u1, .int u2, .int u3, .int u4, .int u5])), (xa29, .inl (kJ, 96, .inr (.inl g_3))), (xa30, .inl (kI, 30, .inl g_4)), (xa31, .inl (kI, 12, .inl (upd f7 2 0))), (xa32, .inl (kI, 12, .inl f8))] := hD
  generalize (upd f7 2 0) = f9 at hP hD
  refine lv_aload_n hx hb dX0_beginAnew_19 rfl (lv_at hl 1 rfl) ?_
  refine va_get (D := (dC, dI)) (ci := 0) (v := .ref xa32) (C := RX0) (T := TX0) (N := 10) hx hb hts hin0 hown hK hP 0 rfl rfl 3 (by decide) (hts (.fieldLink RX0 22 "PathProber$Condition" "counter" "[I") (List.mem_of_getElem? (i := 2) (by decide +kernel))) (fun _ h9 => h9) rfl dX0_beginAnew_20 ?_
  refine lv_iload_n hx hb dX0_beginAnew_23 rfl (lv_at hl 0 rfl) ?_
  refine lv_iconst (v := 0) hx hb dX0_beginAnew_24 (by decide) ?_
  refine va_iast hx hb hK hP hD hS 4 1 rfl rfl (vp_in_nI (n := 2) (by decide) (by decide)) dX0_beginAnew_25 (fun H locs hP hD hS => ?_)
  have hP : va_P (dC, dI) vwCl [(xa28, .inr (0, [.ref xa29, .ref xa30, .ref xa31, .ref xa32, .int u0, .int u1, .int u2, .int u3, .int u4, .int u5])), (xa29, .inl (kJ, 96, .inr (.inl g_3))), (xa30, .inl (kI, 30, .inl g_4)), (xa31, .inl (kI, 12, .inl f9)), (xa32, .inl (kI, 12, .inl (upd f8 2 0)))] H := hP
  have hD : va_D A [(xa28, .inr (0, [.ref xa29, .ref xa30, .ref xa31, .ref xa32, .int u0, .int u1, .int u2, .int u3, .int u4, .int u5])), (xa29, .inl (kJ, 96, .inr (.inl g_3))), (xa30, .inl (kI, 30, .inl g_4)), (xa31, .inl (kI, 12, .inl f9)), (xa32, .inl (kI, 12, .inl (upd f8 2 0)))] := hD
  generalize (upd f8 2 0) = f10 at hP hD
  refine lv_iinc (v := 3) (lv' := [(2, .int 3), (0, .ref xa28), (1, .int p0)]) hx hb dX0_beginAnew_26 hl (k := 0) rfl (by decide) (by decide) rfl (fun ls hl => ?_)
  refine lv_goto (tgt := 6) hx hb dX0_beginAnew_29 (by decide) ?_
  refine lv_iload_n hx hb dX0_beginAnew_6 rfl (lv_at hl 0 rfl) ?_
  refine lv_bipush (v := 12) hx hb dX0_beginAnew_7 (by decide) ?_
  refine lv_icmp_ge (tgt := 32) hx hb dX0_beginAnew_9 (by decide) (fun c9 => absurd c9 (by decide)) (fun _ => ?_)
  refine lv_aload_n hx hb dX0_beginAnew_12 rfl (lv_at hl 1 rfl) ?_
  refine va_get (D := (dC, dI)) (ci := 0) (v := .ref xa31) (C := RX0) (T := TX0) (N := 10) hx hb hts hin0 hown hK hP 0 rfl rfl 2 (by decide) (hts (.fieldLink RX0 19 "PathProber$Condition" "turn" "[I") (List.mem_of_getElem? (i := 1) (by decide +kernel))) (fun _ h9 => h9) rfl dX0_beginAnew_13 ?_
  refine lv_iload_n hx hb dX0_beginAnew_16 rfl (lv_at hl 0 rfl) ?_
  refine lv_iconst (v := 0) hx hb dX0_beginAnew_17 (by decide) ?_
  refine va_iast hx hb hK hP hD hS 3 1 rfl rfl (vp_in_nI (n := 3) (by decide) (by decide)) dX0_beginAnew_18 (fun H locs hP hD hS => ?_)
  have hP : va_P (dC, dI) vwCl [(xa28, .inr (0, [.ref xa29, .ref xa30, .ref xa31, .ref xa32, .int u0, .int u1, .int u2, .int u3, .int u4, .int u5])), (xa29, .inl (kJ, 96, .inr (.inl g_3))), (xa30, .inl (kI, 30, .inl g_4)), (xa31, .inl (kI, 12, .inl (upd f9 3 0))), (xa32, .inl (kI, 12, .inl f10))] H := hP
  have hD : va_D A [(xa28, .inr (0, [.ref xa29, .ref xa30, .ref xa31, .ref xa32, .int u0, .int u1, .int u2, .int u3, .int u4, .int u5])), (xa29, .inl (kJ, 96, .inr (.inl g_3))), (xa30, .inl (kI, 30, .inl g_4)), (xa31, .inl (kI, 12, .inl (upd f9 3 0))), (xa32, .inl (kI, 12, .inl f10))] := hD
  generalize (upd f9 3 0) = f11 at hP hD
  refine lv_aload_n hx hb dX0_beginAnew_19 rfl (lv_at hl 1 rfl) ?_
  refine va_get (D := (dC, dI)) (ci := 0) (v := .ref xa32) (C := RX0) (T := TX0) (N := 10) hx hb hts hin0 hown hK hP 0 rfl rfl 3 (by decide) (hts (.fieldLink RX0 22 "PathProber$Condition" "counter" "[I") (List.mem_of_getElem? (i := 2) (by decide +kernel))) (fun _ h9 => h9) rfl dX0_beginAnew_20 ?_
  refine lv_iload_n hx hb dX0_beginAnew_23 rfl (lv_at hl 0 rfl) ?_
  refine lv_iconst (v := 0) hx hb dX0_beginAnew_24 (by decide) ?_
  refine va_iast hx hb hK hP hD hS 4 1 rfl rfl (vp_in_nI (n := 3) (by decide) (by decide)) dX0_beginAnew_25 (fun H locs hP hD hS => ?_)
  have hP : va_P (dC, dI) vwCl [(xa28, .inr (0, [.ref xa29, .ref xa30, .ref xa31, .ref xa32, .int u0, .int u1, .int u2, .int u3, .int u4, .int u5])), (xa29, .inl (kJ, 96, .inr (.inl g_3))), (xa30, .inl (kI, 30, .inl g_4)), (xa31, .inl (kI, 12, .inl f11)), (xa32, .inl (kI, 12, .inl (upd f10 3 0)))] H := hP
  have hD : va_D A [(xa28, .inr (0, [.ref xa29, .ref xa30, .ref xa31, .ref xa32, .int u0, .int u1, .int u2, .int u3, .int u4, .int u5])), (xa29, .inl (kJ, 96, .inr (.inl g_3))), (xa30, .inl (kI, 30, .inl g_4)), (xa31, .inl (kI, 12, .inl f11)), (xa32, .inl (kI, 12, .inl (upd f10 3 0)))] := hD
  generalize (upd f10 3 0) = f12 at hP hD
  refine lv_iinc (v := 4) (lv' := [(2, .int 4), (0, .ref xa28), (1, .int p0)]) hx hb dX0_beginAnew_26 hl (k := 0) rfl (by decide) (by decide) rfl (fun ls hl => ?_)
  refine lv_goto (tgt := 6) hx hb dX0_beginAnew_29 (by decide) ?_
  refine lv_iload_n hx hb dX0_beginAnew_6 rfl (lv_at hl 0 rfl) ?_
  refine lv_bipush (v := 12) hx hb dX0_beginAnew_7 (by decide) ?_
  refine lv_icmp_ge (tgt := 32) hx hb dX0_beginAnew_9 (by decide) (fun c9 => absurd c9 (by decide)) (fun _ => ?_)
  refine lv_aload_n hx hb dX0_beginAnew_12 rfl (lv_at hl 1 rfl) ?_
  refine va_get (D := (dC, dI)) (ci := 0) (v := .ref xa31) (C := RX0) (T := TX0) (N := 10) hx hb hts hin0 hown hK hP 0 rfl rfl 2 (by decide) (hts (.fieldLink RX0 19 "PathProber$Condition" "turn" "[I") (List.mem_of_getElem? (i := 1) (by decide +kernel))) (fun _ h9 => h9) rfl dX0_beginAnew_13 ?_
  refine lv_iload_n hx hb dX0_beginAnew_16 rfl (lv_at hl 0 rfl) ?_
  refine lv_iconst (v := 0) hx hb dX0_beginAnew_17 (by decide) ?_
  refine va_iast hx hb hK hP hD hS 3 1 rfl rfl (vp_in_nI (n := 4) (by decide) (by decide)) dX0_beginAnew_18 (fun H locs hP hD hS => ?_)
  have hP : va_P (dC, dI) vwCl [(xa28, .inr (0, [.ref xa29, .ref xa30, .ref xa31, .ref xa32, .int u0, .int u1, .int u2, .int u3, .int u4, .int u5])), (xa29, .inl (kJ, 96, .inr (.inl g_3))), (xa30, .inl (kI, 30, .inl g_4)), (xa31, .inl (kI, 12, .inl (upd f11 4 0))), (xa32, .inl (kI, 12, .inl f12))] H := hP
  have hD : va_D A [(xa28, .inr (0, [.ref xa29, .ref xa30, .ref xa31, .ref xa32, .int u0, .int u1, .int u2, .int u3, .int u4, .int u5])), (xa29, .inl (kJ, 96, .inr (.inl g_3))), (xa30, .inl (kI, 30, .inl g_4)), (xa31, .inl (kI, 12, .inl (upd f11 4 0))), (xa32, .inl (kI, 12, .inl f12))] := hD
  generalize (upd f11 4 0) = f13 at hP hD
  refine lv_aload_n hx hb dX0_beginAnew_19 rfl (lv_at hl 1 rfl) ?_
  refine va_get (D := (dC, dI)) (ci := 0) (v := .ref xa32) (C := RX0) (T := TX0) (N := 10) hx hb hts hin0 hown hK hP 0 rfl rfl 3 (by decide) (hts (.fieldLink RX0 22 "PathProber$Condition" "counter" "[I") (List.mem_of_getElem? (i := 2) (by decide +kernel))) (fun _ h9 => h9) rfl dX0_beginAnew_20 ?_
  refine lv_iload_n hx hb dX0_beginAnew_23 rfl (lv_at hl 0 rfl) ?_
  refine lv_iconst (v := 0) hx hb dX0_beginAnew_24 (by decide) ?_
  refine va_iast hx hb hK hP hD hS 4 1 rfl rfl (vp_in_nI (n := 4) (by decide) (by decide)) dX0_beginAnew_25 (fun H locs hP hD hS => ?_)
  have hP : va_P (dC, dI) vwCl [(xa28, .inr (0, [.ref xa29, .ref xa30, .ref xa31, .ref xa32, .int u0, .int u1, .int u2, .int u3, .int u4, .int u5])), (xa29, .inl (kJ, 96, .inr (.inl g_3))), (xa30, .inl (kI, 30, .inl g_4)), (xa31, .inl (kI, 12, .inl f13)), (xa32, .inl (kI, 12, .inl (upd f12 4 0)))] H := hP
  have hD : va_D A [(xa28, .inr (0, [.ref xa29, .ref xa30, .ref xa31, .ref xa32, .int u0, .int u1, .int u2, .int u3, .int u4, .int u5])), (xa29, .inl (kJ, 96, .inr (.inl g_3))), (xa30, .inl (kI, 30, .inl g_4)), (xa31, .inl (kI, 12, .inl f13)), (xa32, .inl (kI, 12, .inl (upd f12 4 0)))] := hD
  generalize (upd f12 4 0) = f14 at hP hD
  refine lv_iinc (v := 5) (lv' := [(2, .int 5), (0, .ref xa28), (1, .int p0)]) hx hb dX0_beginAnew_26 hl (k := 0) rfl (by decide) (by decide) rfl (fun ls hl => ?_)
  refine lv_goto (tgt := 6) hx hb dX0_beginAnew_29 (by decide) ?_
  refine lv_iload_n hx hb dX0_beginAnew_6 rfl (lv_at hl 0 rfl) ?_
  refine lv_bipush (v := 12) hx hb dX0_beginAnew_7 (by decide) ?_
  refine lv_icmp_ge (tgt := 32) hx hb dX0_beginAnew_9 (by decide) (fun c9 => absurd c9 (by decide)) (fun _ => ?_)
  refine lv_aload_n hx hb dX0_beginAnew_12 rfl (lv_at hl 1 rfl) ?_
  refine va_get (D := (dC, dI)) (ci := 0) (v := .ref xa31) (C := RX0) (T := TX0) (N := 10) hx hb hts hin0 hown hK hP 0 rfl rfl 2 (by decide) (hts (.fieldLink RX0 19 "PathProber$Condition" "turn" "[I") (List.mem_of_getElem? (i := 1) (by decide +kernel))) (fun _ h9 => h9) rfl dX0_beginAnew_13 ?_
  refine lv_iload_n hx hb dX0_beginAnew_16 rfl (lv_at hl 0 rfl) ?_
  refine lv_iconst (v := 0) hx hb dX0_beginAnew_17 (by decide) ?_
  refine va_iast hx hb hK hP hD hS 3 1 rfl rfl (vp_in_nI (n := 5) (by decide) (by decide)) dX0_beginAnew_18 (fun H locs hP hD hS => ?_)
  have hP : va_P (dC, dI) vwCl [(xa28, .inr (0, [.ref xa29, .ref xa30, .ref xa31, .ref xa32, .int u0, .int u1, .int u2, .int u3, .int u4, .int u5])), (xa29, .inl (kJ, 96, .inr (.inl g_3))), (xa30, .inl (kI, 30, .inl g_4)), (xa31, .inl (kI, 12, .inl (upd f13 5 0))), (xa32, .inl (kI, 12, .inl f14))] H := hP
  have hD : va_D A [(xa28, .inr (0, [.ref xa29, .ref xa30, .ref xa31, .ref xa32, .int u0, .int u1, .int u2, .int u3, .int u4, .int u5])), (xa29, .inl (kJ, 96, .inr (.inl g_3))), (xa30, .inl (kI, 30, .inl g_4)), (xa31, .inl (kI, 12, .inl (upd f13 5 0))), (xa32, .inl (kI, 12, .inl f14))] := hD
  generalize (upd f13 5 0) = f15 at hP hD
  refine lv_aload_n hx hb dX0_beginAnew_19 rfl (lv_at hl 1 rfl) ?_
  refine va_get (D := (dC, dI)) (ci := 0) (v := .ref xa32) (C := RX0) (T := TX0) (N := 10) hx hb hts hin0 hown hK hP 0 rfl rfl 3 (by decide) (hts (.fieldLink RX0 22 "PathProber$Condition" "counter" "[I") (List.mem_of_getElem? (i := 2) (by decide +kernel))) (fun _ h9 => h9) rfl dX0_beginAnew_20 ?_
  refine lv_iload_n hx hb dX0_beginAnew_23 rfl (lv_at hl 0 rfl) ?_
  refine lv_iconst (v := 0) hx hb dX0_beginAnew_24 (by decide) ?_
  refine va_iast hx hb hK hP hD hS 4 1 rfl rfl (vp_in_nI (n := 5) (by decide) (by decide)) dX0_beginAnew_25 (fun H locs hP hD hS => ?_)
  have hP : va_P (dC, dI) vwCl [(xa28, .inr (0, [.ref xa29, .ref xa30, .ref xa31, .ref xa32, .int u0, .int u1, .int u2, .int u3, .int u4, .int u5])), (xa29, .inl (kJ, 96, .inr (.inl g_3))), (xa30, .inl (kI, 30, .inl g_4)), (xa31, .inl (kI, 12, .inl f15)), (xa32, .inl (kI, 12, .inl (upd f14 5 0)))] H := hP
  have hD : va_D A [(xa28, .inr (0, [.ref xa29, .ref xa30, .ref xa31, .ref xa32, .int u0, .int u1, .int u2, .int u3, .int u4, .int u5])), (xa29, .inl (kJ, 96, .inr (.inl g_3))), (xa30, .inl (kI, 30, .inl g_4)), (xa31, .inl (kI, 12, .inl f15)), (xa32, .inl (kI, 12, .inl (upd f14 5 0)))] := hD
  generalize (upd f14 5 0) = f16 at hP hD
  refine lv_iinc (v := 6) (lv' := [(2, .int 6), (0, .ref xa28), (1, .int p0)]) hx hb dX0_beginAnew_26 hl (k := 0) rfl (by decide) (by decide) rfl (fun ls hl => ?_)
  refine lv_goto (tgt := 6) hx hb dX0_beginAnew_29 (by decide) ?_
  refine lv_iload_n hx hb dX0_beginAnew_6 rfl (lv_at hl 0 rfl) ?_
  refine lv_bipush (v := 12) hx hb dX0_beginAnew_7 (by decide) ?_
  refine lv_icmp_ge (tgt := 32) hx hb dX0_beginAnew_9 (by decide) (fun c9 => absurd c9 (by decide)) (fun _ => ?_)
  refine lv_aload_n hx hb dX0_beginAnew_12 rfl (lv_at hl 1 rfl) ?_
  refine va_get (D := (dC, dI)) (ci := 0) (v := .ref xa31) (C := RX0) (T := TX0) (N := 10) hx hb hts hin0 hown hK hP 0 rfl rfl 2 (by decide) (hts (.fieldLink RX0 19 "PathProber$Condition" "turn" "[I") (List.mem_of_getElem? (i := 1) (by decide +kernel))) (fun _ h9 => h9) rfl dX0_beginAnew_13 ?_
  refine lv_iload_n hx hb dX0_beginAnew_16 rfl (lv_at hl 0 rfl) ?_
  refine lv_iconst (v := 0) hx hb dX0_beginAnew_17 (by decide) ?_
  refine va_iast hx hb hK hP hD hS 3 1 rfl rfl (vp_in_nI (n := 6) (by decide) (by decide)) dX0_beginAnew_18 (fun H locs hP hD hS => ?_)
  have hP : va_P (dC, dI) vwCl [(xa28, .inr (0, [.ref xa29, .ref xa30, .ref xa31, .ref xa32, .int u0, .int u1, .int u2, .int u3, .int u4, .int u5])), (xa29, .inl (kJ, 96, .inr (.inl g_3))), (xa30, .inl (kI, 30, .inl g_4)), (xa31, .inl (kI, 12, .inl (upd f15 6 0))), (xa32, .inl (kI, 12, .inl f16))] H := hP
  have hD : va_D A [(xa28, .inr (0, [.ref xa29, .ref xa30, .ref xa31, .ref xa32, .int u0, .int u1, .int u2, .int u3, .int u4, .int u5])), (xa29, .inl (kJ, 96, .inr (.inl g_3))), (xa30, .inl (kI, 30, .inl g_4)), (xa31, .inl (kI, 12, .inl (upd f15 6 0))), (xa32, .inl (kI, 12, .inl f16))] := hD
  generalize (upd f15 6 0) = f17 at hP hD
  refine lv_aload_n hx hb dX0_beginAnew_19 rfl (lv_at hl 1 rfl) ?_
  refine va_get (D := (dC, dI)) (ci := 0) (v := .ref xa32) (C := RX0) (T := TX0) (N := 10) hx hb hts hin0 hown hK hP 0 rfl rfl 3 (by decide) (hts (.fieldLink RX0 22 "PathProber$Condition" "counter" "[I") (List.mem_of_getElem? (i := 2) (by decide +kernel))) (fun _ h9 => h9) rfl dX0_beginAnew_20 ?_
  refine lv_iload_n hx hb dX0_beginAnew_23 rfl (lv_at hl 0 rfl) ?_
  refine lv_iconst (v := 0) hx hb dX0_beginAnew_24 (by decide) ?_
  refine va_iast hx hb hK hP hD hS 4 1 rfl rfl (vp_in_nI (n := 6) (by decide) (by decide)) dX0_beginAnew_25 (fun H locs hP hD hS => ?_)
  have hP : va_P (dC, dI) vwCl [(xa28, .inr (0, [.ref xa29, .ref xa30, .ref xa31, .ref xa32, .int u0, .int u1, .int u2, .int u3, .int u4, .int u5])), (xa29, .inl (kJ, 96, .inr (.inl g_3))), (xa30, .inl (kI, 30, .inl g_4)), (xa31, .inl (kI, 12, .inl f17)), (xa32, .inl (kI, 12, .inl (upd f16 6 0)))] H := hP
  have hD : va_D A [(xa28, .inr (0, [.ref xa29, .ref xa30, .ref xa31, .ref xa32, .int u0, .int u1, .int u2, .int u3, .int u4, .int u5])), (xa29, .inl (kJ, 96, .inr (.inl g_3))), (xa30, .inl (kI, 30, .inl g_4)), (xa31, .inl (kI, 12, .inl f17)), (xa32, .inl (kI, 12, .inl (upd f16 6 0)))] := hD
  generalize (upd f16 6 0) = f18 at hP hD
  refine lv_iinc (v := 7) (lv' := [(2, .int 7), (0, .ref xa28), (1, .int p0)]) hx hb dX0_beginAnew_26 hl (k := 0) rfl (by decide) (by decide) rfl (fun ls hl => ?_)
  refine lv_goto (tgt := 6) hx hb dX0_beginAnew_29 (by decide) ?_
  refine lv_iload_n hx hb dX0_beginAnew_6 rfl (lv_at hl 0 rfl) ?_
  refine lv_bipush (v := 12) hx hb dX0_beginAnew_7 (by decide) ?_
  refine lv_icmp_ge (tgt := 32) hx hb dX0_beginAnew_9 (by decide) (fun c9 => absurd c9 (by decide)) (fun _ => ?_)
  refine lv_aload_n hx hb dX0_beginAnew_12 rfl (lv_at hl 1 rfl) ?_
  refine va_get (D := (dC, dI)) (ci := 0) (v := .ref xa31) (C := RX0) (T := TX0) (N := 10) hx hb hts hin0 hown hK hP 0 rfl rfl 2 (by decide) (hts (.fieldLink RX0 19 "PathProber$Condition" "turn" "[I") (List.mem_of_getElem? (i := 1) (by decide +kernel))) (fun _ h9 => h9) rfl dX0_beginAnew_13 ?_
  refine lv_iload_n hx hb dX0_beginAnew_16 rfl (lv_at hl 0 rfl) ?_
  refine lv_iconst (v := 0) hx hb dX0_beginAnew_17 (by decide) ?_
  refine va_iast hx hb hK hP hD hS 3 1 rfl rfl (vp_in_nI (n := 7) (by decide) (by decide)) dX0_beginAnew_18 (fun H locs hP hD hS => ?_)
  have hP : va_P (dC, dI) vwCl [(xa28, .inr (0, [.ref xa29, .ref xa30, .ref xa31, .ref xa32, .int u0, .int u1, .int u2, .int u3, .int u4, .int u5])), (xa29, .inl (kJ, 96, .inr (.inl g_3))), (xa30, .inl (kI, 30, .inl g_4)), (xa31, .inl (kI, 12, .inl (upd f17 7 0))), (xa32, .inl (kI, 12, .inl f18))] H := hP
  have hD : va_D A [(xa28, .inr (0, [.ref xa29, .ref xa30, .ref xa31, .ref xa32, .int u0, .int u1, .int u2, .int u3, .int u4, .int u5])), (xa29, .inl (kJ, 96, .inr (.inl g_3))), (xa30, .inl (kI, 30, .inl g_4)), (xa31, .inl (kI, 12, .inl (upd f17 7 0))), (xa32, .inl (kI, 12, .inl f18))] := hD
  generalize (upd f17 7 0) = f19 at hP hD
  refine lv_aload_n hx hb dX0_beginAnew_19 rfl (lv_at hl 1 rfl) ?_
  refine va_get (D := (dC, dI)) (ci := 0) (v := .ref xa32) (C := RX0) (T := TX0) (N := 10) hx hb hts hin0 hown hK hP 0 rfl rfl 3 (by decide) (hts (.fieldLink RX0 22 "PathProber$Condition" "counter" "[I") (List.mem_of_getElem? (i := 2) (by decide +kernel))) (fun _ h9 => h9) rfl dX0_beginAnew_20 ?_
  refine lv_iload_n hx hb dX0_beginAnew_23 rfl (lv_at hl 0 rfl) ?_
  refine lv_iconst (v := 0) hx hb dX0_beginAnew_24 (by decide) ?_
  refine va_iast hx hb hK hP hD hS 4 1 rfl rfl (vp_in_nI (n := 7) (by decide) (by decide)) dX0_beginAnew_25 (fun H locs hP hD hS => ?_)
  have hP : va_P (dC, dI) vwCl [(xa28, .inr (0, [.ref xa29, .ref xa30, .ref xa31, .ref xa32, .int u0, .int u1, .int u2, .int u3, .int u4, .int u5])), (xa29, .inl (kJ, 96, .inr (.inl g_3))), (xa30, .inl (kI, 30, .inl g_4)), (xa31, .inl (kI, 12, .inl f19)), (xa32, .inl (kI, 12, .inl (upd f18 7 0)))] H := hP
  have hD : va_D A [(xa28, .inr (0, [.ref xa29, .ref xa30, .ref xa31, .ref xa32, .int u0, .int u1, .int u2, .int u3, .int u4, .int u5])), (xa29, .inl (kJ, 96, .inr (.inl g_3))), (xa30, .inl (kI, 30, .inl g_4)), (xa31, .inl (kI, 12, .inl f19)), (xa32, .inl (kI, 12, .inl (upd f18 7 0)))] := hD
  generalize (upd f18 7 0) = f20 at hP hD
  refine lv_iinc (v := 8) (lv' := [(2, .int 8), (0, .ref xa28), (1, .int p0)]) hx hb dX0_beginAnew_26 hl (k := 0) rfl (by decide) (by decide) rfl (fun ls hl => ?_)
  refine lv_goto (tgt := 6) hx hb dX0_beginAnew_29 (by decide) ?_
  refine lv_iload_n hx hb dX0_beginAnew_6 rfl (lv_at hl 0 rfl) ?_
  refine lv_bipush (v := 12) hx hb dX0_beginAnew_7 (by decide) ?_
  refine lv_icmp_ge (tgt := 32) hx hb dX0_beginAnew_9 (by decide) (fun c9 => absurd c9 (by decide)) (fun _ => ?_)
  refine lv_aload_n hx hb dX0_beginAnew_12 rfl (lv_at hl 1 rfl) ?_
  refine va_get (D := (dC, dI)) (ci := 0) (v := .ref xa31) (C := RX0) (T := TX0) (N := 10) hx hb hts hin0 hown hK hP 0 rfl rfl 2 (by decide) (hts (.fieldLink RX0 19 "PathProber$Condition" "turn" "[I") (List.mem_of_getElem? (i := 1) (by decide +kernel))) (fun _ h9 => h9) rfl dX0_beginAnew_13 ?_
  refine lv_iload_n hx hb dX0_beginAnew_16 rfl (lv_at hl 0 rfl) ?_
  refine lv_iconst (v := 0) hx hb dX0_beginAnew_17 (by decide) ?_
  refine va_iast hx hb hK hP hD hS 3 1 rfl rfl (vp_in_nI (n := 8) (by decide) (by decide)) dX0_beginAnew_18 (fun H locs hP hD hS => ?_)
  have hP : va_P (dC, dI) vwCl [(xa28, .inr (0, [.ref xa29, .ref xa30, .ref xa31, .ref xa32, .int u0, .int u1, .int u2, .int u3, .int u4, .int u5])), (xa29, .inl (kJ, 96, .inr (.inl g_3))), (xa30, .inl (kI, 30, .inl g_4)), (xa31, .inl (kI, 12, .inl (upd f19 8 0))), (xa32, .inl (kI, 12, .inl f20))] H := hP
  have hD : va_D A [(xa28, .inr (0, [.ref xa29, .ref xa30, .ref xa31, .ref xa32, .int u0, .int u1, .int u2, .int u3, .int u4, .int u5])), (xa29, .inl (kJ, 96, .inr (.inl g_3))), (xa30, .inl (kI, 30, .inl g_4)), (xa31, .inl (kI, 12, .inl (upd f19 8 0))), (xa32, .inl (kI, 12, .inl f20))] := hD
  generalize (upd f19 8 0) = f21 at hP hD
  refine lv_aload_n hx hb dX0_beginAnew_19 rfl (lv_at hl 1 rfl) ?_
  refine va_get (D := (dC, dI)) (ci := 0) (v := .ref xa32) (C := RX0) (T := TX0) (N := 10) hx hb hts hin0 hown hK hP 0 rfl rfl 3 (by decide) (hts (.fieldLink RX0 22 "PathProber$Condition" "counter" "[I") (List.mem_of_getElem? (i := 2) (by decide +kernel))) (fun _ h9 => h9) rfl dX0_beginAnew_20 ?_
  refine lv_iload_n hx hb dX0_beginAnew_23 rfl (lv_at hl 0 rfl) ?_
  refine lv_iconst (v := 0) hx hb dX0_beginAnew_24 (by decide) ?_
  refine va_iast hx hb hK hP hD hS 4 1 rfl rfl (vp_in_nI (n := 8) (by decide) (by decide)) dX0_beginAnew_25 (fun H locs hP hD hS => ?_)
  have hP : va_P (dC, dI) vwCl [(xa28, .inr (0, [.ref xa29, .ref xa30, .ref xa31, .ref xa32, .int u0, .int u1, .int u2, .int u3, .int u4, .int u5])), (xa29, .inl (kJ, 96, .inr (.inl g_3))), (xa30, .inl (kI, 30, .inl g_4)), (xa31, .inl (kI, 12, .inl f21)), (xa32, .inl (kI, 12, .inl (upd f20 8 0)))] H := hP
  have hD : va_D A [(xa28, .inr (0, [.ref xa29, .ref xa30, .ref xa31, .ref xa32, .int u0, .int u1, .int u2, .int u3, .int u4, .int u5])), (xa29, .inl (kJ, 96, .inr (.inl g_3))), (xa30, .inl (kI, 30, .inl g_4)), (xa31, .inl (kI, 12, .inl f21)), (xa32, .inl (kI, 12, .inl (upd f20 8 0)))] := hD
  generalize (upd f20 8 0) = f22 at hP hD
  refine lv_iinc (v := 9) (lv' := [(2, .int 9), (0, .ref xa28), (1, .int p0)]) hx hb dX0_beginAnew_26 hl (k := 0) rfl (by decide) (by decide) rfl (fun ls hl => ?_)
  refine lv_goto (tgt := 6) hx hb dX0_beginAnew_29 (by decide) ?_
  refine lv_iload_n hx hb dX0_beginAnew_6 rfl (lv_at hl 0 rfl) ?_
  refine lv_bipush (v := 12) hx hb dX0_beginAnew_7 (by decide) ?_
  refine lv_icmp_ge (tgt := 32) hx hb dX0_beginAnew_9 (by decide) (fun c9 => absurd c9 (by decide)) (fun _ => ?_)
  refine lv_aload_n hx hb dX0_beginAnew_12 rfl (lv_at hl 1 rfl) ?_
  refine va_get (D := (dC, dI)) (ci := 0) (v := .ref xa31) (C := RX0) (T := TX0) (N := 10) hx hb hts hin0 hown hK hP 0 rfl rfl 2 (by decide) (hts (.fieldLink RX0 19 "PathProber$Condition" "turn" "[I") (List.mem_of_getElem? (i := 1) (by decide +kernel))) (fun _ h9 => h9) rfl dX0_beginAnew_13 ?_
  refine lv_iload_n hx hb dX0_beginAnew_16 rfl (lv_at hl 0 rfl) ?_
  refine lv_iconst (v := 0) hx hb dX0_beginAnew_17 (by decide) ?_
  refine va_iast hx hb hK hP hD hS 3 1 rfl rfl (vp_in_nI (n := 9) (by decide) (by decide)) dX0_beginAnew_18 (fun H locs hP hD hS => ?_)
  have hP : va_P (dC, dI) vwCl [(xa28, .inr (0, [.ref xa29, .ref xa30, .ref xa31, .ref xa32, .int u0, .int u1, .int u2, .int u3, .int u4, .int u5])), (xa29, .inl (kJ, 96, .inr (.inl g_3))), (xa30, .inl (kI, 30, .inl g_4)), (xa31, .inl (kI, 12, .inl (upd f21 9 0))), (xa32, .inl (kI, 12, .inl f22))] H := hP
  have hD : va_D A [(xa28, .inr (0, [.ref xa29, .ref xa30, .ref xa31, .ref xa32, .int u0, .int u1, .int u2, .int u3, .int u4, .int u5])), (xa29, .inl (kJ, 96, .inr (.inl g_3))), (xa30, .inl (kI, 30, .inl g_4)), (xa31, .inl (kI, 12, .inl (upd f21 9 0))), (xa32, .inl (kI, 12, .inl f22))] := hD
  generalize (upd f21 9 0) = f23 at hP hD
  refine lv_aload_n hx hb dX0_beginAnew_19 rfl (lv_at hl 1 rfl) ?_
  refine va_get (D := (dC, dI)) (ci := 0) (v := .ref xa32) (C := RX0) (T := TX0) (N := 10) hx hb hts hin0 hown hK hP 0 rfl rfl 3 (by decide) (hts (.fieldLink RX0 22 "PathProber$Condition" "counter" "[I") (List.mem_of_getElem? (i := 2) (by decide +kernel))) (fun _ h9 => h9) rfl dX0_beginAnew_20 ?_
  refine lv_iload_n hx hb dX0_beginAnew_23 rfl (lv_at hl 0 rfl) ?_
  refine lv_iconst (v := 0) hx hb dX0_beginAnew_24 (by decide) ?_
  refine va_iast hx hb hK hP hD hS 4 1 rfl rfl (vp_in_nI (n := 9) (by decide) (by decide)) dX0_beginAnew_25 (fun H locs hP hD hS => ?_)
  have hP : va_P (dC, dI) vwCl [(xa28, .inr (0, [.ref xa29, .ref xa30, .ref xa31, .ref xa32, .int u0, .int u1, .int u2, .int u3, .int u4, .int u5])), (xa29, .inl (kJ, 96, .inr (.inl g_3))), (xa30, .inl (kI, 30, .inl g_4)), (xa31, .inl (kI, 12, .inl f23)), (xa32, .inl (kI, 12, .inl (upd f22 9 0)))] H := hP
  have hD : va_D A [(xa28, .inr (0, [.ref xa29, .ref xa30, .ref xa31, .ref xa32, .int u0, .int u1, .int u2, .int u3, .int u4, .int u5])), (xa29, .inl (kJ, 96, .inr (.inl g_3))), (xa30, .inl (kI, 30, .inl g_4)), (xa31, .inl (kI, 12, .inl f23)), (xa32, .inl (kI, 12, .inl (upd f22 9 0)))] := hD
  generalize (upd f22 9 0) = f24 at hP hD
  refine lv_iinc (v := 10) (lv' := [(2, .int 10), (0, .ref xa28), (1, .int p0)]) hx hb dX0_beginAnew_26 hl (k := 0) rfl (by decide) (by decide) rfl (fun ls hl => ?_)
  refine lv_goto (tgt := 6) hx hb dX0_beginAnew_29 (by decide) ?_
  refine lv_iload_n hx hb dX0_beginAnew_6 rfl (lv_at hl 0 rfl) ?_
  refine lv_bipush (v := 12) hx hb dX0_beginAnew_7 (by decide) ?_
  refine lv_icmp_ge (tgt := 32) hx hb dX0_beginAnew_9 (by decide) (fun c9 => absurd c9 (by decide)) (fun _ => ?_)
  refine lv_aload_n hx hb dX0_beginAnew_12 rfl (lv_at hl 1 rfl) ?_
  refine va_get (D := (dC, dI)) (ci := 0) (v := .ref xa31) (C := RX0) (T := TX0) (N := 10) hx hb hts hin0 hown hK hP 0 rfl rfl 2 (by decide) (hts (.fieldLink RX0 19 "PathProber$Condition" "turn" "[I") (List.mem_of_getElem? (i := 1) (by decide +kernel))) (fun _ h9 => h9) rfl dX0_beginAnew_13 ?_
  refine lv_iload_n hx hb dX0_beginAnew_16 rfl (lv_at hl 0 rfl) ?_
  refine lv_iconst (v := 0) hx hb dX0_beginAnew_17 (by decide) ?_
  refine va_iast hx hb hK hP hD hS 3 1 rfl rfl (vp_in_nI (n := 10) (by decide) (by decide)) dX0_beginAnew_18 (fun H locs hP hD hS => ?_)
  have hP : va_P (dC, dI) vwCl [(xa28, .inr (0, [.ref xa29, .ref xa30, .ref xa31, .ref xa32, .int u0, .int u1, .int u2, .int u3, .int u4, .int u5])), (xa29, .inl (kJ, 96, .inr (.inl g_3))), (xa30, .inl (kI, 30, .inl g_4)), (xa31, .inl (kI, 12, .inl (upd f23 10 0))), (xa32, .inl (kI, 12, .inl f24))] H := hP
  have hD : va_D A [(xa28, .inr (0, [.ref xa29, .ref xa30, .ref xa31, .ref xa32, .int u0, .int u1, .int u2, .int u3, .int u4, .int u5])), (xa29, .inl (kJ, 96, .inr (.inl g_3))), (xa30, .inl (kI, 30, .inl g_4)), (xa31, .inl (kI, 12, .inl (upd f23 10 0))), (xa32, .inl (kI, 12, .inl f24))] := hD
  generalize (upd f23 10 0) = f25 at hP hD
  refine lv_aload_n hx hb dX0_beginAnew_19 rfl (lv_at hl 1 rfl) ?_
  refine va_get (D := (dC, dI)) (ci := 0) (v := .ref xa32) (C := RX0) (T := TX0) (N := 10) hx hb hts hin0 hown hK hP 0 rfl rfl 3 (by decide) (hts (.fieldLink RX0 22 "PathProber$Condition" "counter" "[I") (List.mem_of_getElem? (i := 2) (by decide +kernel))) (fun _ h9 => h9) rfl dX0_beginAnew_20 ?_
  refine lv_iload_n hx hb dX0_beginAnew_23 rfl (lv_at hl 0 rfl) ?_
  refine lv_iconst (v := 0) hx hb dX0_beginAnew_24 (by decide) ?_
  refine va_iast hx hb hK hP hD hS 4 1 rfl rfl (vp_in_nI (n := 10) (by decide) (by decide)) dX0_beginAnew_25 (fun H locs hP hD hS => ?_)
  have hP : va_P (dC, dI) vwCl [(xa28, .inr (0, [.ref xa29, .ref xa30, .ref xa31, .ref xa32, .int u0, .int u1, .int u2, .int u3, .int u4, .int u5])), (xa29, .inl (kJ, 96, .inr (.inl g_3))), (xa30, .inl (kI, 30, .inl g_4)), (xa31, .inl (kI, 12, .inl f25)), (xa32, .inl (kI, 12, .inl (upd f24 10 0)))] H := hP
  have hD : va_D A [(xa28, .inr (0, [.ref xa29, .ref xa30, .ref xa31, .ref xa32, .int u0, .int u1, .int u2, .int u3, .int u4, .int u5])), (xa29, .inl (kJ, 96, .inr (.inl g_3))), (xa30, .inl (kI, 30, .inl g_4)), (xa31, .inl (kI, 12, .inl f25)), (xa32, .inl (kI, 12, .inl (upd f24 10 0)))] := hD
  generalize (upd f24 10 0) = f26 at hP hD
  refine lv_iinc (v := 11) (lv' := [(2, .int 11), (0, .ref xa28), (1, .int p0)]) hx hb dX0_beginAnew_26 hl (k := 0) rfl (by decide) (by decide) rfl (fun ls hl => ?_)
  refine lv_goto (tgt := 6) hx hb dX0_beginAnew_29 (by decide) ?_
  refine lv_iload_n hx hb dX0_beginAnew_6 rfl (lv_at hl 0 rfl) ?_
  refine lv_bipush (v := 12) hx hb dX0_beginAnew_7 (by decide) ?_
  refine lv_icmp_ge (tgt := 32) hx hb dX0_beginAnew_9 (by decide) (fun c9 => absurd c9 (by decide)) (fun _ => ?_)
  refine lv_aload_n hx hb dX0_beginAnew_12 rfl (lv_at hl 1 rfl) ?_
  refine va_get (D := (dC, dI)) (ci := 0) (v := .ref xa31) (C := RX0) (T := TX0) (N := 10) hx hb hts hin0 hown hK hP 0 rfl rfl 2 (by decide) (hts (.fieldLink RX0 19 "PathProber$Condition" "turn" "[I") (List.mem_of_getElem? (i := 1) (by decide +kernel))) (fun _ h9 => h9) rfl dX0_beginAnew_13 ?_
  refine lv_iload_n hx hb dX0_beginAnew_16 rfl (lv_at hl 0 rfl) ?_
  refine lv_iconst (v := 0) hx hb dX0_beginAnew_17 (by decide) ?_
  refine va_iast hx hb hK hP hD hS 3 1 rfl rfl (vp_in_nI (n := 11) (by decide) (by decide)) dX0_beginAnew_18 (fun H locs hP hD hS => ?_)
  have hP : va_P (dC, dI) vwCl [(xa28, .inr (0, [.ref xa29, .ref xa30, .ref xa31, .ref xa32, .int u0, .int u1, .int u2, .int u3, .int u4, .int u5])), (xa29, .inl (kJ, 96, .inr (.inl g_3))), (xa30, .inl (kI, 30, .inl g_4)), (xa31, .inl (kI, 12, .inl (upd f25 11 0))), (xa32, .inl (kI, 12, .inl f26))] H := hP
  have hD : va_D A [(xa28, .inr (0, [.ref xa29, .ref xa30, .ref xa31, .ref xa32, .int u0, .int u1, .int u2, .int u3, .int u4, .int u5])), (xa29, .inl (kJ, 96, .inr (.inl g_3))), (xa30, .inl (kI, 30, .inl g_4)), (xa31, .inl (kI, 12, .inl (upd f25 11 0))), (xa32, .inl (kI, 12, .inl f26))] := hD
  generalize (upd f25 11 0) = f27 at hP hD
  refine lv_aload_n hx hb dX0_beginAnew_19 rfl (lv_at hl 1 rfl) ?_
  refine va_get (D := (dC, dI)) (ci := 0) (v := .ref xa32) (C := RX0) (T := TX0) (N := 10) hx hb hts hin0 hown hK hP 0 rfl rfl 3 (by decide) (hts (.fieldLink RX0 22 "PathProber$Condition" "counter" "[I") (List.mem_of_getElem? (i := 2) (by decide +kernel))) (fun _ h9 => h9) rfl dX0_beginAnew_20 ?_
  refine lv_iload_n hx hb dX0_beginAnew_23 rfl (lv_at hl 0 rfl) ?_
  refine lv_iconst (v := 0) hx hb dX0_beginAnew_24 (by decide) ?_
  refine va_iast hx hb hK hP hD hS 4 1 rfl rfl (vp_in_nI (n := 11) (by decide) (by decide)) dX0_beginAnew_25 (fun H locs hP hD hS => ?_)
  have hP : va_P (dC, dI) vwCl [(xa28, .inr (0, [.ref xa29, .ref xa30, .ref xa31, .ref xa32, .int u0, .int u1, .int u2, .int u3, .int u4, .int u5])), (xa29, .inl (kJ, 96, .inr (.inl g_3))), (xa30, .inl (kI, 30, .inl g_4)), (xa31, .inl (kI, 12, .inl f27)), (xa32, .inl (kI, 12, .inl (upd f26 11 0)))] H := hP
  have hD : va_D A [(xa28, .inr (0, [.ref xa29, .ref xa30, .ref xa31, .ref xa32, .int u0, .int u1, .int u2, .int u3, .int u4, .int u5])), (xa29, .inl (kJ, 96, .inr (.inl g_3))), (xa30, .inl (kI, 30, .inl g_4)), (xa31, .inl (kI, 12, .inl f27)), (xa32, .inl (kI, 12, .inl (upd f26 11 0)))] := hD
  generalize (upd f26 11 0) = f28 at hP hD
  refine lv_iinc (v := 12) (lv' := [(2, .int 12), (0, .ref xa28), (1, .int p0)]) hx hb dX0_beginAnew_26 hl (k := 0) rfl (by decide) (by decide) rfl (fun ls hl => ?_)
  refine lv_goto (tgt := 6) hx hb dX0_beginAnew_29 (by decide) ?_
  refine lv_iload_n hx hb dX0_beginAnew_6 rfl (lv_at hl 0 rfl) ?_
  refine lv_bipush (v := 12) hx hb dX0_beginAnew_7 (by decide) ?_
  refine lv_icmp_ge (tgt := 32) hx hb dX0_beginAnew_9 (by decide) (fun _ => ?_) (fun c9 => absurd (by decide) c9)
  refine lv_aload_n hx hb dX0_beginAnew_32 rfl (lv_at hl 1 rfl) ?_
  refine lv_iload_n hx hb dX0_beginAnew_33 rfl (lv_at hl 2 rfl) ?_
  refine va_put (D := (dC, dI)) (ci := 0) (v := .int p0) (ty := .int) (C := RX0) (T := TX0) (N := 10) hx hb hts hin0 tyX0 tyX0_ok nmX0 hown hK hP hD hS 0 rfl rfl 4 (by decide) (hts (.fieldLink RX0 25 "PathProber$Condition" "loss" "I") (List.mem_of_getElem? (i := 3) (by decide +kernel))) (fun _ h9 => h9) rfl (by decide +kernel) rfl rfl (Nat.le_of_ble_eq_true rfl) dX0_beginAnew_34 (fun H locs hP hD hS => ?_)
  have hP : va_P (dC, dI) vwCl [(xa28, .inr (0, [.ref xa29, .ref xa30, .ref xa31, .ref xa32, .int p0, .int u1, .int u2, .int u3, .int u4, .int u5])), (xa29, .inl (kJ, 96, .inr (.inl g_3))), (xa30, .inl (kI, 30, .inl g_4)), (xa31, .inl (kI, 12, .inl f27)), (xa32, .inl (kI, 12, .inl f28))] H := hP
  have hD : va_D A [(xa28, .inr (0, [.ref xa29, .ref xa30, .ref xa31, .ref xa32, .int p0, .int u1, .int u2, .int u3, .int u4, .int u5])), (xa29, .inl (kJ, 96, .inr (.inl g_3))), (xa30, .inl (kI, 30, .inl g_4)), (xa31, .inl (kI, 12, .inl f27)), (xa32, .inl (kI, 12, .inl f28))] := hD
  refine lv_aload_n hx hb dX0_beginAnew_37 rfl (lv_at hl 1 rfl) ?_
  refine lv_iconst (v := 0) hx hb dX0_beginAnew_38 (by decide) ?_
  refine va_put (D := (dC, dI)) (ci := 0) (v := .int 0) (ty := .int) (C := RX0) (T := TX0) (N := 10) hx hb hts hin0 tyX0 tyX0_ok nmX0 hown hK hP hD hS 0 rfl rfl 5 (by decide) (hts (.fieldLink RX0 29 "PathProber$Condition" "opened" "I") (List.mem_of_getElem? (i := 4) (by decide +kernel))) (fun _ h9 => h9) rfl (by decide +kernel) rfl rfl (Nat.le_of_ble_eq_true rfl) dX0_beginAnew_39 (fun H locs hP hD hS => ?_)
  have hP : va_P (dC, dI) vwCl [(xa28, .inr (0, [.ref xa29, .ref xa30, .ref xa31, .ref xa32, .int p0, .int 0, .int u2, .int u3, .int u4, .int u5])), (xa29, .inl (kJ, 96, .inr (.inl g_3))), (xa30, .inl (kI, 30, .inl g_4)), (xa31, .inl (kI, 12, .inl f27)), (xa32, .inl (kI, 12, .inl f28))] H := hP
  have hD : va_D A [(xa28, .inr (0, [.ref xa29, .ref xa30, .ref xa31, .ref xa32, .int p0, .int 0, .int u2, .int u3, .int u4, .int u5])), (xa29, .inl (kJ, 96, .inr (.inl g_3))), (xa30, .inl (kI, 30, .inl g_4)), (xa31, .inl (kI, 12, .inl f27)), (xa32, .inl (kI, 12, .inl f28))] := hD
  refine lv_aload_n hx hb dX0_beginAnew_42 rfl (lv_at hl 1 rfl) ?_
  refine lv_iconst (v := 0) hx hb dX0_beginAnew_43 (by decide) ?_
  refine va_put (D := (dC, dI)) (ci := 0) (v := .int 0) (ty := .int) (C := RX0) (T := TX0) (N := 10) hx hb hts hin0 tyX0 tyX0_ok nmX0 hown hK hP hD hS 0 rfl rfl 6 (by decide) (hts (.fieldLink RX0 32 "PathProber$Condition" "open" "I") (List.mem_of_getElem? (i := 5) (by decide +kernel))) (fun _ h9 => h9) rfl (by decide +kernel) rfl rfl (Nat.le_of_ble_eq_true rfl) dX0_beginAnew_44 (fun H locs hP hD hS => ?_)
  have hP : va_P (dC, dI) vwCl [(xa28, .inr (0, [.ref xa29, .ref xa30, .ref xa31, .ref xa32, .int p0, .int 0, .int 0, .int u3, .int u4, .int u5])), (xa29, .inl (kJ, 96, .inr (.inl g_3))), (xa30, .inl (kI, 30, .inl g_4)), (xa31, .inl (kI, 12, .inl f27)), (xa32, .inl (kI, 12, .inl f28))] H := hP
  have hD : va_D A [(xa28, .inr (0, [.ref xa29, .ref xa30, .ref xa31, .ref xa32, .int p0, .int 0, .int 0, .int u3, .int u4, .int u5])), (xa29, .inl (kJ, 96, .inr (.inl g_3))), (xa30, .inl (kI, 30, .inl g_4)), (xa31, .inl (kI, 12, .inl f27)), (xa32, .inl (kI, 12, .inl f28))] := hD
  refine lv_aload_n hx hb dX0_beginAnew_47 rfl (lv_at hl 1 rfl) ?_
  refine lv_iconst (v := 0) hx hb dX0_beginAnew_48 (by decide) ?_
  refine va_put (D := (dC, dI)) (ci := 0) (v := .int 0) (ty := .int) (C := RX0) (T := TX0) (N := 10) hx hb hts hin0 tyX0 tyX0_ok nmX0 hown hK hP hD hS 0 rfl rfl 7 (by decide) (hts (.fieldLink RX0 35 "PathProber$Condition" "deep" "I") (List.mem_of_getElem? (i := 6) (by decide +kernel))) (fun _ h9 => h9) rfl (by decide +kernel) rfl rfl (Nat.le_of_ble_eq_true rfl) dX0_beginAnew_49 (fun H locs hP hD hS => ?_)
  have hP : va_P (dC, dI) vwCl [(xa28, .inr (0, [.ref xa29, .ref xa30, .ref xa31, .ref xa32, .int p0, .int 0, .int 0, .int 0, .int u4, .int u5])), (xa29, .inl (kJ, 96, .inr (.inl g_3))), (xa30, .inl (kI, 30, .inl g_4)), (xa31, .inl (kI, 12, .inl f27)), (xa32, .inl (kI, 12, .inl f28))] H := hP
  have hD : va_D A [(xa28, .inr (0, [.ref xa29, .ref xa30, .ref xa31, .ref xa32, .int p0, .int 0, .int 0, .int 0, .int u4, .int u5])), (xa29, .inl (kJ, 96, .inr (.inl g_3))), (xa30, .inl (kI, 30, .inl g_4)), (xa31, .inl (kI, 12, .inl f27)), (xa32, .inl (kI, 12, .inl f28))] := hD
  refine lv_aload_n hx hb dX0_beginAnew_52 rfl (lv_at hl 1 rfl) ?_
  refine lv_iconst (v := 0) hx hb dX0_beginAnew_53 (by decide) ?_
  refine va_put (D := (dC, dI)) (ci := 0) (v := .int 0) (ty := .int) (C := RX0) (T := TX0) (N := 10) hx hb hts hin0 tyX0 tyX0_ok nmX0 hown hK hP hD hS 0 rfl rfl 8 (by decide) (hts (.fieldLink RX0 38 "PathProber$Condition" "muted" "I") (List.mem_of_getElem? (i := 7) (by decide +kernel))) (fun _ h9 => h9) rfl (by decide +kernel) rfl rfl (Nat.le_of_ble_eq_true rfl) dX0_beginAnew_54 (fun H locs hP hD hS => ?_)
  have hP : va_P (dC, dI) vwCl [(xa28, .inr (0, [.ref xa29, .ref xa30, .ref xa31, .ref xa32, .int p0, .int 0, .int 0, .int 0, .int 0, .int u5])), (xa29, .inl (kJ, 96, .inr (.inl g_3))), (xa30, .inl (kI, 30, .inl g_4)), (xa31, .inl (kI, 12, .inl f27)), (xa32, .inl (kI, 12, .inl f28))] H := hP
  have hD : va_D A [(xa28, .inr (0, [.ref xa29, .ref xa30, .ref xa31, .ref xa32, .int p0, .int 0, .int 0, .int 0, .int 0, .int u5])), (xa29, .inl (kJ, 96, .inr (.inl g_3))), (xa30, .inl (kI, 30, .inl g_4)), (xa31, .inl (kI, 12, .inl f27)), (xa32, .inl (kI, 12, .inl f28))] := hD
  refine lv_aload_n hx hb dX0_beginAnew_57 rfl (lv_at hl 1 rfl) ?_
  refine lv_iconst (v := 0) hx hb dX0_beginAnew_58 (by decide) ?_
  refine va_put (D := (dC, dI)) (ci := 0) (v := .int 0) (ty := .int) (C := RX0) (T := TX0) (N := 10) hx hb hts hin0 tyX0 tyX0_ok nmX0 hown hK hP hD hS 0 rfl rfl 9 (by decide) (hts (.fieldLink RX0 41 "PathProber$Condition" "lost" "I") (List.mem_of_getElem? (i := 8) (by decide +kernel))) (fun _ h9 => h9) rfl (by decide +kernel) rfl rfl (Nat.le_of_ble_eq_true rfl) dX0_beginAnew_59 (fun H locs hP hD hS => ?_)
  have hP : va_P (dC, dI) vwCl [(xa28, .inr (0, [.ref xa29, .ref xa30, .ref xa31, .ref xa32, .int p0, .int 0, .int 0, .int 0, .int 0, .int 0])), (xa29, .inl (kJ, 96, .inr (.inl g_3))), (xa30, .inl (kI, 30, .inl g_4)), (xa31, .inl (kI, 12, .inl f27)), (xa32, .inl (kI, 12, .inl f28))] H := hP
  have hD : va_D A [(xa28, .inr (0, [.ref xa29, .ref xa30, .ref xa31, .ref xa32, .int p0, .int 0, .int 0, .int 0, .int 0, .int 0])), (xa29, .inl (kJ, 96, .inr (.inl g_3))), (xa30, .inl (kI, 30, .inl g_4)), (xa31, .inl (kI, 12, .inl f27)), (xa32, .inl (kI, 12, .inl f28))] := hD
  have hP9 := hP.sub (ws' := [(xa28, .inr (0, [.ref xa29, .ref xa30, .ref xa31, .ref xa32, .int p0, .int 0, .int 0, .int 0, .int 0, .int 0])), (xa29, .inl (kJ, 96, .inr (.inl g_3))), (xa30, .inl (kI, 30, .inl g_4)), (xa31, .inl (kI, 12, .inl f27)), (xa32, .inl (kI, 12, .inl f28))]) [0, 1, 2, 3, 4] rfl
  have hD9 := hD.sub (ws' := [(xa28, .inr (0, [.ref xa29, .ref xa30, .ref xa31, .ref xa32, .int p0, .int 0, .int 0, .int 0, .int 0, .int 0])), (xa29, .inl (kJ, 96, .inr (.inl g_3))), (xa30, .inl (kI, 30, .inl g_4)), (xa31, .inl (kI, 12, .inl f27)), (xa32, .inl (kI, 12, .inl f28))]) [0, 1, 2, 3, 4] (by decide) rfl
  exact W.vret hx hb hr (fun t ht hW => ⟨⟨(), rfl, trivial, g_3, g_4, f27, f28, by rw [ht]; exact hP9, hD9⟩, hS.F ht⟩) hS.2.2 dX0_beginAnew_62
def rm_k0_sentInAll : Room := { frames := 0, cells := 0, slots := 0, locals := 0 }
set_option maxHeartbeats 4000000 in
set_option maxRecDepth 100000 in
theorem k0_sentInAll (l : Launch) (dC : Nat → ClassId) (dI : Nat → Nat → Nat) (kB kI kJ kZ kC kS : ClassId) (sz : Nat) (xa28 : Nat) (xa29 : Nat) (xa30 : Nat) (xa31 : Nat) (xa32 : Nat) (u0 : Int32) (u1 : Int32) (u2 : Int32) (u3 : Int32) (u4 : Int32) (u5 : Int32) (f1 : Nat → Int64) (f3 : Nat → Int32) (f4 : Nat → Int32) : Met l yX0_sentInAll wsX0_sentInAll rm_k0_sentInAll (va_Pc [.ref xa28] (fun U => U.heap.size = sz ∧ va_P (dC, dI) vwCl [(xa28, .inr (0, [.ref xa29, .ref xa30, .ref xa31, .ref xa32, .int u0, .int u1, .int u2, .int u3, .int u4, .int u5])), (xa29, .inl (kJ, 96, .inr (.inl f1))), (xa30, .inl (kI, 30, .inl (fun _ => 0))), (xa31, .inl (kI, 12, .inl f3)), (xa32, .inl (kI, 12, .inl f4))] U.heap ∧ kE dC dI kB kI kJ kZ kC kS U ∧ va_D (fun _ => True) [(xa28, .inr (0, [.ref xa29, .ref xa30, .ref xa31, .ref xa32, .int u0, .int u1, .int u2, .int u3, .int u4, .int u5])), (xa29, .inl (kJ, 96, .inr (.inl f1))), (xa30, .inl (kI, 30, .inl (fun _ => 0))), (xa31, .inl (kI, 12, .inl f3)), (xa32, .inl (kI, 12, .inl f4))])) (va_Qi (fun (r : Int32) (_ : Unit) => r = 0) (fun _ t => va_P (dC, dI) vwCl [(xa28, .inr (0, [.ref xa29, .ref xa30, .ref xa31, .ref xa32, .int u0, .int u1, .int u2, .int u3, .int u4, .int u5])), (xa29, .inl (kJ, 96, .inr (.inl f1))), (xa30, .inl (kI, 30, .inl (fun _ => 0))), (xa31, .inl (kI, 12, .inl f3)), (xa32, .inl (kI, 12, .inl f4))] t.heap ∧ va_D (va_A [(xa28, .inr (0, [.ref xa29, .ref xa30, .ref xa31, .ref xa32, .int u0, .int u1, .int u2, .int u3, .int u4, .int u5])), (xa29, .inl (kJ, 96, .inr (.inl f1))), (xa30, .inl (kI, 30, .inl (fun _ => 0))), (xa31, .inl (kI, 12, .inl f3)), (xa32, .inl (kI, 12, .inl f4))] sz) [(xa28, .inr (0, [.ref xa29, .ref xa30, .ref xa31, .ref xa32, .int u0, .int u1, .int u2, .int u3, .int u4, .int u5])), (xa29, .inl (kJ, 96, .inr (.inl f1))), (xa30, .inl (kI, 30, .inl (fun _ => 0))), (xa31, .inl (kI, 12, .inl f3)), (xa32, .inl (kI, 12, .inl f4))]) (va_A [(xa28, .inr (0, [.ref xa29, .ref xa30, .ref xa31, .ref xa32, .int u0, .int u1, .int u2, .int u3, .int u4, .int u5])), (xa29, .inl (kJ, 96, .inr (.inl f1))), (xa30, .inl (kI, 30, .inl (fun _ => 0))), (xa31, .inl (kI, 12, .inl f3)), (xa32, .inl (kI, 12, .inl f4))] sz)) 0 0 (va_A [(xa28, .inr (0, [.ref xa29, .ref xa30, .ref xa31, .ref xa32, .int u0, .int u1, .int u2, .int u3, .int u4, .int u5])), (xa29, .inl (kJ, 96, .inr (.inl f1))), (xa30, .inl (kI, 30, .inl (fun _ => 0))), (xa31, .inl (kI, 12, .inl f3)), (xa32, .inl (kI, 12, .inl f4))] sz) := by
  refine Met.ofW (cc := cX0_sentInAll) (maxL := 3) (ret := (some .int)) (by decide) rfl ?_
  intro p e s m args0 below meth c s₁ B hml hv
  obtain ⟨hargs, hsz, hP, hE, hD0⟩ := hv
  have hx := B.exec
  have hb := B.bytes
  have hr := B.returns
  have hts := atoms_spec (ws := wsX0_sentInAll) B.pre
  have hown : s.vm.findClass RX0 = some m.cls := findClass_of_methodNamed B.named
  have hlocks := B.notSynchronized
  have hK := hE.1
  have hin0 : ∀ w ∈ wsX00, w ∈ wsX0_sentInAll := fun _ h9 => List.mem_cons_of_mem _ (List.mem_append_right _ h9)
  subst hsz
  have hD := hD0.self (sz := s.heap.size)
  generalize hAe : va_A [(xa28, .inr (0, [.ref xa29, .ref xa30, .ref xa31, .ref xa32, .int u0, .int u1, .int u2, .int u3, .int u4, .int u5])), (xa29, .inl (kJ, 96, .inr (.inl f1))), (xa30, .inl (kI, 30, .inl (fun _ => 0))), (xa31, .inl (kI, 12, .inl f3)), (xa32, .inl (kI, 12, .inl f4))] s.heap.size = A at hD ⊢
  have hA : ∀ q : Nat, s.heap.size ≤ q → A q := fun q h => by rw [← hAe]; exact Or.inr h
  have hS : va_S A s.heap s.heap [] := va_S.rf
  have hP : va_P (dC, dI) vwCl [(xa28, .inr (0, [.ref xa29, .ref xa30, .ref xa31, .ref xa32, .int u0, .int u1, .int u2, .int u3, .int u4, .int u5])), (xa29, .inl (kJ, 96, .inr (.inl f1))), (xa30, .inl (kI, 30, .inl (fun _ => 0))), (xa31, .inl (kI, 12, .inl f3)), (xa32, .inl (kI, 12, .inl f4))] s.heap := hP
  have hl := lv_entry ([.ref xa28]) (n := 3) (Nat.le_of_ble_eq_true rfl)
  have hla : entryFrame m args0 3 = entryFrame m ([.ref xa28] : List Value).toArray 3 := by rw [hargs]
  rw [hla, lg_entry_eq]
  generalize (lg_sl ([.ref xa28]) ++ List.replicate (3 - (lg_sl ([.ref xa28])).length) Slot.unset).toArray = ls at hl ⊢
  have hl : lv_has ls 3 [(0, .ref xa28)] := hl
  refine lv_iconst (v := 0) hx hb dX0_sentInAll_0 (by decide) ?_
  refine lv_istore_n (lv' := [(1, .int 0), (0, .ref xa28)]) hx hb dX0_sentInAll_1 rfl hl (by decide) rfl (fun ls hl => ?_)
  refine lv_iconst (v := 0) hx hb dX0_sentInAll_2 (by decide) ?_
  refine lv_istore_n (lv' := [(2, .int 0), (1, .int 0), (0, .ref xa28)]) hx hb dX0_sentInAll_3 rfl hl (by decide) rfl (fun ls hl => ?_)
  refine lv_iload_n hx hb dX0_sentInAll_4 rfl (lv_at hl 0 rfl) ?_
  refine lv_bipush (v := 30) hx hb dX0_sentInAll_5 (by decide) ?_
  refine lv_icmp_ge (tgt := 25) hx hb dX0_sentInAll_7 (by decide) (fun c9 => absurd c9 (by decide)) (fun _ => ?_)
  refine lv_iload_n hx hb dX0_sentInAll_10 rfl (lv_at hl 1 rfl) ?_
  refine lv_aload_n hx hb dX0_sentInAll_11 rfl (lv_at hl 2 rfl) ?_
  refine va_get (D := (dC, dI)) (ci := 0) (v := .ref xa30) (C := RX0) (T := TX0) (N := 10) hx hb hts hin0 hown hK hP 0 rfl rfl 1 (by decide) (hts (.fieldLink RX0 15 "PathProber$Condition" "sent" "[I") (List.mem_of_getElem? (i := 1) (by decide +kernel))) (fun _ h9 => h9) rfl dX0_sentInAll_12 ?_
  refine lv_iload_n hx hb dX0_sentInAll_15 rfl (lv_at hl 0 rfl) ?_
  refine va_iald hx hb hK hP 2 1 rfl rfl (vp_in_nI (n := 0) (by decide) (by decide)) dX0_sentInAll_16 ?_
  refine lv_topi (fun z1 e2 => ?_)
  obtain rfl : z1 = (0 : Int32) := e2
  refine lv_iadd hx hb dX0_sentInAll_17 ?_
  refine lv_topi (fun z3 e4 => ?_)
  obtain rfl : z3 = (0 : Int32) := e4.trans (by decide)
  refine lv_istore_n (lv' := [(1, .int 0), (2, .int 0), (0, .ref xa28)]) hx hb dX0_sentInAll_18 rfl hl (by decide) rfl (fun ls hl => ?_)
  refine lv_iinc (v := 1) (lv' := [(2, .int 1), (1, .int 0), (0, .ref xa28)]) hx hb dX0_sentInAll_19 hl (k := 1) rfl (by decide) (by decide) rfl (fun ls hl => ?_)
  refine lv_goto (tgt := 4) hx hb dX0_sentInAll_22 (by decide) ?_
  refine lv_iload_n hx hb dX0_sentInAll_4 rfl (lv_at hl 0 rfl) ?_
  refine lv_bipush (v := 30) hx hb dX0_sentInAll_5 (by decide) ?_
  refine lv_icmp_ge (tgt := 25) hx hb dX0_sentInAll_7 (by decide) (fun c9 => absurd c9 (by decide)) (fun _ => ?_)
  refine lv_iload_n hx hb dX0_sentInAll_10 rfl (lv_at hl 1 rfl) ?_
  refine lv_aload_n hx hb dX0_sentInAll_11 rfl (lv_at hl 2 rfl) ?_
  refine va_get (D := (dC, dI)) (ci := 0) (v := .ref xa30) (C := RX0) (T := TX0) (N := 10) hx hb hts hin0 hown hK hP 0 rfl rfl 1 (by decide) (hts (.fieldLink RX0 15 "PathProber$Condition" "sent" "[I") (List.mem_of_getElem? (i := 1) (by decide +kernel))) (fun _ h9 => h9) rfl dX0_sentInAll_12 ?_
  refine lv_iload_n hx hb dX0_sentInAll_15 rfl (lv_at hl 0 rfl) ?_
  refine va_iald hx hb hK hP 2 1 rfl rfl (vp_in_nI (n := 1) (by decide) (by decide)) dX0_sentInAll_16 ?_
  refine lv_topi (fun z5 e6 => ?_)
  obtain rfl : z5 = (0 : Int32) := e6
  refine lv_iadd hx hb dX0_sentInAll_17 ?_
  refine lv_topi (fun z7 e8 => ?_)
  obtain rfl : z7 = (0 : Int32) := e8.trans (by decide)
  refine lv_istore_n (lv' := [(1, .int 0), (2, .int 1), (0, .ref xa28)]) hx hb dX0_sentInAll_18 rfl hl (by decide) rfl (fun ls hl => ?_)
  refine lv_iinc (v := 2) (lv' := [(2, .int 2), (1, .int 0), (0, .ref xa28)]) hx hb dX0_sentInAll_19 hl (k := 1) rfl (by decide) (by decide) rfl (fun ls hl => ?_)
  refine lv_goto (tgt := 4) hx hb dX0_sentInAll_22 (by decide) ?_
  refine lv_iload_n hx hb dX0_sentInAll_4 rfl (lv_at hl 0 rfl) ?_
  refine lv_bipush (v := 30) hx hb dX0_sentInAll_5 (by decide) ?_
  refine lv_icmp_ge (tgt := 25) hx hb dX0_sentInAll_7 (by decide) (fun c9 => absurd c9 (by decide)) (fun _ => ?_)
  refine lv_iload_n hx hb dX0_sentInAll_10 rfl (lv_at hl 1 rfl) ?_
  refine lv_aload_n hx hb dX0_sentInAll_11 rfl (lv_at hl 2 rfl) ?_
  refine va_get (D := (dC, dI)) (ci := 0) (v := .ref xa30) (C := RX0) (T := TX0) (N := 10) hx hb hts hin0 hown hK hP 0 rfl rfl 1 (by decide) (hts (.fieldLink RX0 15 "PathProber$Condition" "sent" "[I") (List.mem_of_getElem? (i := 1) (by decide +kernel))) (fun _ h9 => h9) rfl dX0_sentInAll_12 ?_
  refine lv_iload_n hx hb dX0_sentInAll_15 rfl (lv_at hl 0 rfl) ?_
  refine va_iald hx hb hK hP 2 1 rfl rfl (vp_in_nI (n := 2) (by decide) (by decide)) dX0_sentInAll_16 ?_
  refine lv_topi (fun z9 e10 => ?_)
  obtain rfl : z9 = (0 : Int32) := e10
  refine lv_iadd hx hb dX0_sentInAll_17 ?_
  refine lv_topi (fun z11 e12 => ?_)
  obtain rfl : z11 = (0 : Int32) := e12.trans (by decide)
  refine lv_istore_n (lv' := [(1, .int 0), (2, .int 2), (0, .ref xa28)]) hx hb dX0_sentInAll_18 rfl hl (by decide) rfl (fun ls hl => ?_)
  refine lv_iinc (v := 3) (lv' := [(2, .int 3), (1, .int 0), (0, .ref xa28)]) hx hb dX0_sentInAll_19 hl (k := 1) rfl (by decide) (by decide) rfl (fun ls hl => ?_)
  refine lv_goto (tgt := 4) hx hb dX0_sentInAll_22 (by decide) ?_
  refine lv_iload_n hx hb dX0_sentInAll_4 rfl (lv_at hl 0 rfl) ?_
  refine lv_bipush (v := 30) hx hb dX0_sentInAll_5 (by decide) ?_
  refine lv_icmp_ge (tgt := 25) hx hb dX0_sentInAll_7 (by decide) (fun c9 => absurd c9 (by decide)) (fun _ => ?_)
  refine lv_iload_n hx hb dX0_sentInAll_10 rfl (lv_at hl 1 rfl) ?_
  refine lv_aload_n hx hb dX0_sentInAll_11 rfl (lv_at hl 2 rfl) ?_
  refine va_get (D := (dC, dI)) (ci := 0) (v := .ref xa30) (C := RX0) (T := TX0) (N := 10) hx hb hts hin0 hown hK hP 0 rfl rfl 1 (by decide) (hts (.fieldLink RX0 15 "PathProber$Condition" "sent" "[I") (List.mem_of_getElem? (i := 1) (by decide +kernel))) (fun _ h9 => h9) rfl dX0_sentInAll_12 ?_
  refine lv_iload_n hx hb dX0_sentInAll_15 rfl (lv_at hl 0 rfl) ?_
  refine va_iald hx hb hK hP 2 1 rfl rfl (vp_in_nI (n := 3) (by decide) (by decide)) dX0_sentInAll_16 ?_
  refine lv_topi (fun z13 e14 => ?_)
  obtain rfl : z13 = (0 : Int32) := e14
  refine lv_iadd hx hb dX0_sentInAll_17 ?_
  refine lv_topi (fun z15 e16 => ?_)
  obtain rfl : z15 = (0 : Int32) := e16.trans (by decide)
  refine lv_istore_n (lv' := [(1, .int 0), (2, .int 3), (0, .ref xa28)]) hx hb dX0_sentInAll_18 rfl hl (by decide) rfl (fun ls hl => ?_)
  refine lv_iinc (v := 4) (lv' := [(2, .int 4), (1, .int 0), (0, .ref xa28)]) hx hb dX0_sentInAll_19 hl (k := 1) rfl (by decide) (by decide) rfl (fun ls hl => ?_)
  refine lv_goto (tgt := 4) hx hb dX0_sentInAll_22 (by decide) ?_
  refine lv_iload_n hx hb dX0_sentInAll_4 rfl (lv_at hl 0 rfl) ?_
  refine lv_bipush (v := 30) hx hb dX0_sentInAll_5 (by decide) ?_
  refine lv_icmp_ge (tgt := 25) hx hb dX0_sentInAll_7 (by decide) (fun c9 => absurd c9 (by decide)) (fun _ => ?_)
  refine lv_iload_n hx hb dX0_sentInAll_10 rfl (lv_at hl 1 rfl) ?_
  refine lv_aload_n hx hb dX0_sentInAll_11 rfl (lv_at hl 2 rfl) ?_
  refine va_get (D := (dC, dI)) (ci := 0) (v := .ref xa30) (C := RX0) (T := TX0) (N := 10) hx hb hts hin0 hown hK hP 0 rfl rfl 1 (by decide) (hts (.fieldLink RX0 15 "PathProber$Condition" "sent" "[I") (List.mem_of_getElem? (i := 1) (by decide +kernel))) (fun _ h9 => h9) rfl dX0_sentInAll_12 ?_
  refine lv_iload_n hx hb dX0_sentInAll_15 rfl (lv_at hl 0 rfl) ?_
  refine va_iald hx hb hK hP 2 1 rfl rfl (vp_in_nI (n := 4) (by decide) (by decide)) dX0_sentInAll_16 ?_
  refine lv_topi (fun z17 e18 => ?_)
  obtain rfl : z17 = (0 : Int32) := e18
  refine lv_iadd hx hb dX0_sentInAll_17 ?_
  refine lv_topi (fun z19 e20 => ?_)
  obtain rfl : z19 = (0 : Int32) := e20.trans (by decide)
  refine lv_istore_n (lv' := [(1, .int 0), (2, .int 4), (0, .ref xa28)]) hx hb dX0_sentInAll_18 rfl hl (by decide) rfl (fun ls hl => ?_)
  refine lv_iinc (v := 5) (lv' := [(2, .int 5), (1, .int 0), (0, .ref xa28)]) hx hb dX0_sentInAll_19 hl (k := 1) rfl (by decide) (by decide) rfl (fun ls hl => ?_)
  refine lv_goto (tgt := 4) hx hb dX0_sentInAll_22 (by decide) ?_
  refine lv_iload_n hx hb dX0_sentInAll_4 rfl (lv_at hl 0 rfl) ?_
  refine lv_bipush (v := 30) hx hb dX0_sentInAll_5 (by decide) ?_
  refine lv_icmp_ge (tgt := 25) hx hb dX0_sentInAll_7 (by decide) (fun c9 => absurd c9 (by decide)) (fun _ => ?_)
  refine lv_iload_n hx hb dX0_sentInAll_10 rfl (lv_at hl 1 rfl) ?_
  refine lv_aload_n hx hb dX0_sentInAll_11 rfl (lv_at hl 2 rfl) ?_
  refine va_get (D := (dC, dI)) (ci := 0) (v := .ref xa30) (C := RX0) (T := TX0) (N := 10) hx hb hts hin0 hown hK hP 0 rfl rfl 1 (by decide) (hts (.fieldLink RX0 15 "PathProber$Condition" "sent" "[I") (List.mem_of_getElem? (i := 1) (by decide +kernel))) (fun _ h9 => h9) rfl dX0_sentInAll_12 ?_
  refine lv_iload_n hx hb dX0_sentInAll_15 rfl (lv_at hl 0 rfl) ?_
  refine va_iald hx hb hK hP 2 1 rfl rfl (vp_in_nI (n := 5) (by decide) (by decide)) dX0_sentInAll_16 ?_
  refine lv_topi (fun z21 e22 => ?_)
  obtain rfl : z21 = (0 : Int32) := e22
  refine lv_iadd hx hb dX0_sentInAll_17 ?_
  refine lv_topi (fun z23 e24 => ?_)
  obtain rfl : z23 = (0 : Int32) := e24.trans (by decide)
  refine lv_istore_n (lv' := [(1, .int 0), (2, .int 5), (0, .ref xa28)]) hx hb dX0_sentInAll_18 rfl hl (by decide) rfl (fun ls hl => ?_)
  refine lv_iinc (v := 6) (lv' := [(2, .int 6), (1, .int 0), (0, .ref xa28)]) hx hb dX0_sentInAll_19 hl (k := 1) rfl (by decide) (by decide) rfl (fun ls hl => ?_)
  refine lv_goto (tgt := 4) hx hb dX0_sentInAll_22 (by decide) ?_
  refine lv_iload_n hx hb dX0_sentInAll_4 rfl (lv_at hl 0 rfl) ?_
  refine lv_bipush (v := 30) hx hb dX0_sentInAll_5 (by decide) ?_
  refine lv_icmp_ge (tgt := 25) hx hb dX0_sentInAll_7 (by decide) (fun c9 => absurd c9 (by decide)) (fun _ => ?_)
  refine lv_iload_n hx hb dX0_sentInAll_10 rfl (lv_at hl 1 rfl) ?_
  refine lv_aload_n hx hb dX0_sentInAll_11 rfl (lv_at hl 2 rfl) ?_
  refine va_get (D := (dC, dI)) (ci := 0) (v := .ref xa30) (C := RX0) (T := TX0) (N := 10) hx hb hts hin0 hown hK hP 0 rfl rfl 1 (by decide) (hts (.fieldLink RX0 15 "PathProber$Condition" "sent" "[I") (List.mem_of_getElem? (i := 1) (by decide +kernel))) (fun _ h9 => h9) rfl dX0_sentInAll_12 ?_
  refine lv_iload_n hx hb dX0_sentInAll_15 rfl (lv_at hl 0 rfl) ?_
  refine va_iald hx hb hK hP 2 1 rfl rfl (vp_in_nI (n := 6) (by decide) (by decide)) dX0_sentInAll_16 ?_
  refine lv_topi (fun z25 e26 => ?_)
  obtain rfl : z25 = (0 : Int32) := e26
  refine lv_iadd hx hb dX0_sentInAll_17 ?_
  refine lv_topi (fun z27 e28 => ?_)
  obtain rfl : z27 = (0 : Int32) := e28.trans (by decide)
  refine lv_istore_n (lv' := [(1, .int 0), (2, .int 6), (0, .ref xa28)]) hx hb dX0_sentInAll_18 rfl hl (by decide) rfl (fun ls hl => ?_)
  refine lv_iinc (v := 7) (lv' := [(2, .int 7), (1, .int 0), (0, .ref xa28)]) hx hb dX0_sentInAll_19 hl (k := 1) rfl (by decide) (by decide) rfl (fun ls hl => ?_)
  refine lv_goto (tgt := 4) hx hb dX0_sentInAll_22 (by decide) ?_
  refine lv_iload_n hx hb dX0_sentInAll_4 rfl (lv_at hl 0 rfl) ?_
  refine lv_bipush (v := 30) hx hb dX0_sentInAll_5 (by decide) ?_
  refine lv_icmp_ge (tgt := 25) hx hb dX0_sentInAll_7 (by decide) (fun c9 => absurd c9 (by decide)) (fun _ => ?_)
  refine lv_iload_n hx hb dX0_sentInAll_10 rfl (lv_at hl 1 rfl) ?_
  refine lv_aload_n hx hb dX0_sentInAll_11 rfl (lv_at hl 2 rfl) ?_
  refine va_get (D := (dC, dI)) (ci := 0) (v := .ref xa30) (C := RX0) (T := TX0) (N := 10) hx hb hts hin0 hown hK hP 0 rfl rfl 1 (by decide) (hts (.fieldLink RX0 15 "PathProber$Condition" "sent" "[I") (List.mem_of_getElem? (i := 1) (by decide +kernel))) (fun _ h9 => h9) rfl dX0_sentInAll_12 ?_
  refine lv_iload_n hx hb dX0_sentInAll_15 rfl (lv_at hl 0 rfl) ?_
  refine va_iald hx hb hK hP 2 1 rfl rfl (vp_in_nI (n := 7) (by decide) (by decide)) dX0_sentInAll_16 ?_
  refine lv_topi (fun z29 e30 => ?_)
  obtain rfl : z29 = (0 : Int32) := e30
  refine lv_iadd hx hb dX0_sentInAll_17 ?_
  refine lv_topi (fun z31 e32 => ?_)
  obtain rfl : z31 = (0 : Int32) := e32.trans (by decide)
  refine lv_istore_n (lv' := [(1, .int 0), (2, .int 7), (0, .ref xa28)]) hx hb dX0_sentInAll_18 rfl hl (by decide) rfl (fun ls hl => ?_)
  refine lv_iinc (v := 8) (lv' := [(2, .int 8), (1, .int 0), (0, .ref xa28)]) hx hb dX0_sentInAll_19 hl (k := 1) rfl (by decide) (by decide) rfl (fun ls hl => ?_)
  refine lv_goto (tgt := 4) hx hb dX0_sentInAll_22 (by decide) ?_
  refine lv_iload_n hx hb dX0_sentInAll_4 rfl (lv_at hl 0 rfl) ?_
  refine lv_bipush (v := 30) hx hb dX0_sentInAll_5 (by decide) ?_
  refine lv_icmp_ge (tgt := 25) hx hb dX0_sentInAll_7 (by decide) (fun c9 => absurd c9 (by decide)) (fun _ => ?_)
  refine lv_iload_n hx hb dX0_sentInAll_10 rfl (lv_at hl 1 rfl) ?_
  refine lv_aload_n hx hb dX0_sentInAll_11 rfl (lv_at hl 2 rfl) ?_
  refine va_get (D := (dC, dI)) (ci := 0) (v := .ref xa30) (C := RX0) (T := TX0) (N := 10) hx hb hts hin0 hown hK hP 0 rfl rfl 1 (by decide) (hts (.fieldLink RX0 15 "PathProber$Condition" "sent" "[I") (List.mem_of_getElem? (i := 1) (by decide +kernel))) (fun _ h9 => h9) rfl dX0_sentInAll_12 ?_
  refine lv_iload_n hx hb dX0_sentInAll_15 rfl (lv_at hl 0 rfl) ?_
  refine va_iald hx hb hK hP 2 1 rfl rfl (vp_in_nI (n := 8) (by decide) (by decide)) dX0_sentInAll_16 ?_
  refine lv_topi (fun z33 e34 => ?_)
  obtain rfl : z33 = (0 : Int32) := e34
  refine lv_iadd hx hb dX0_sentInAll_17 ?_
  refine lv_topi (fun z35 e36 => ?_)
  obtain rfl : z35 = (0 : Int32) := e36.trans (by decide)
  refine lv_istore_n (lv' := [(1, .int 0), (2, .int 8), (0, .ref xa28)]) hx hb dX0_sentInAll_18 rfl hl (by decide) rfl (fun ls hl => ?_)
  refine lv_iinc (v := 9) (lv' := [(2, .int 9), (1, .int 0), (0, .ref xa28)]) hx hb dX0_sentInAll_19 hl (k := 1) rfl (by decide) (by decide) rfl (fun ls hl => ?_)
  refine lv_goto (tgt := 4) hx hb dX0_sentInAll_22 (by decide) ?_
  refine lv_iload_n hx hb dX0_sentInAll_4 rfl (lv_at hl 0 rfl) ?_
  refine lv_bipush (v := 30) hx hb dX0_sentInAll_5 (by decide) ?_
  refine lv_icmp_ge (tgt := 25) hx hb dX0_sentInAll_7 (by decide) (fun c9 => absurd c9 (by decide)) (fun _ => ?_)
  refine lv_iload_n hx hb dX0_sentInAll_10 rfl (lv_at hl 1 rfl) ?_
  refine lv_aload_n hx hb dX0_sentInAll_11 rfl (lv_at hl 2 rfl) ?_
  refine va_get (D := (dC, dI)) (ci := 0) (v := .ref xa30) (C := RX0) (T := TX0) (N := 10) hx hb hts hin0 hown hK hP 0 rfl rfl 1 (by decide) (hts (.fieldLink RX0 15 "PathProber$Condition" "sent" "[I") (List.mem_of_getElem? (i := 1) (by decide +kernel))) (fun _ h9 => h9) rfl dX0_sentInAll_12 ?_
  refine lv_iload_n hx hb dX0_sentInAll_15 rfl (lv_at hl 0 rfl) ?_
  refine va_iald hx hb hK hP 2 1 rfl rfl (vp_in_nI (n := 9) (by decide) (by decide)) dX0_sentInAll_16 ?_
  refine lv_topi (fun z37 e38 => ?_)
  obtain rfl : z37 = (0 : Int32) := e38
  refine lv_iadd hx hb dX0_sentInAll_17 ?_
  refine lv_topi (fun z39 e40 => ?_)
  obtain rfl : z39 = (0 : Int32) := e40.trans (by decide)
  refine lv_istore_n (lv' := [(1, .int 0), (2, .int 9), (0, .ref xa28)]) hx hb dX0_sentInAll_18 rfl hl (by decide) rfl (fun ls hl => ?_)
  refine lv_iinc (v := 10) (lv' := [(2, .int 10), (1, .int 0), (0, .ref xa28)]) hx hb dX0_sentInAll_19 hl (k := 1) rfl (by decide) (by decide) rfl (fun ls hl => ?_)
  refine lv_goto (tgt := 4) hx hb dX0_sentInAll_22 (by decide) ?_
  refine lv_iload_n hx hb dX0_sentInAll_4 rfl (lv_at hl 0 rfl) ?_
  refine lv_bipush (v := 30) hx hb dX0_sentInAll_5 (by decide) ?_
  refine lv_icmp_ge (tgt := 25) hx hb dX0_sentInAll_7 (by decide) (fun c9 => absurd c9 (by decide)) (fun _ => ?_)
  refine lv_iload_n hx hb dX0_sentInAll_10 rfl (lv_at hl 1 rfl) ?_
  refine lv_aload_n hx hb dX0_sentInAll_11 rfl (lv_at hl 2 rfl) ?_
  refine va_get (D := (dC, dI)) (ci := 0) (v := .ref xa30) (C := RX0) (T := TX0) (N := 10) hx hb hts hin0 hown hK hP 0 rfl rfl 1 (by decide) (hts (.fieldLink RX0 15 "PathProber$Condition" "sent" "[I") (List.mem_of_getElem? (i := 1) (by decide +kernel))) (fun _ h9 => h9) rfl dX0_sentInAll_12 ?_
  refine lv_iload_n hx hb dX0_sentInAll_15 rfl (lv_at hl 0 rfl) ?_
  refine va_iald hx hb hK hP 2 1 rfl rfl (vp_in_nI (n := 10) (by decide) (by decide)) dX0_sentInAll_16 ?_
  refine lv_topi (fun z41 e42 => ?_)
  obtain rfl : z41 = (0 : Int32) := e42
  refine lv_iadd hx hb dX0_sentInAll_17 ?_
  refine lv_topi (fun z43 e44 => ?_)
  obtain rfl : z43 = (0 : Int32) := e44.trans (by decide)
  refine lv_istore_n (lv' := [(1, .int 0), (2, .int 10), (0, .ref xa28)]) hx hb dX0_sentInAll_18 rfl hl (by decide) rfl (fun ls hl => ?_)
  refine lv_iinc (v := 11) (lv' := [(2, .int 11), (1, .int 0), (0, .ref xa28)]) hx hb dX0_sentInAll_19 hl (k := 1) rfl (by decide) (by decide) rfl (fun ls hl => ?_)
  refine lv_goto (tgt := 4) hx hb dX0_sentInAll_22 (by decide) ?_
  refine lv_iload_n hx hb dX0_sentInAll_4 rfl (lv_at hl 0 rfl) ?_
  refine lv_bipush (v := 30) hx hb dX0_sentInAll_5 (by decide) ?_
  refine lv_icmp_ge (tgt := 25) hx hb dX0_sentInAll_7 (by decide) (fun c9 => absurd c9 (by decide)) (fun _ => ?_)
  refine lv_iload_n hx hb dX0_sentInAll_10 rfl (lv_at hl 1 rfl) ?_
  refine lv_aload_n hx hb dX0_sentInAll_11 rfl (lv_at hl 2 rfl) ?_
  refine va_get (D := (dC, dI)) (ci := 0) (v := .ref xa30) (C := RX0) (T := TX0) (N := 10) hx hb hts hin0 hown hK hP 0 rfl rfl 1 (by decide) (hts (.fieldLink RX0 15 "PathProber$Condition" "sent" "[I") (List.mem_of_getElem? (i := 1) (by decide +kernel))) (fun _ h9 => h9) rfl dX0_sentInAll_12 ?_
  refine lv_iload_n hx hb dX0_sentInAll_15 rfl (lv_at hl 0 rfl) ?_
  refine va_iald hx hb hK hP 2 1 rfl rfl (vp_in_nI (n := 11) (by decide) (by decide)) dX0_sentInAll_16 ?_
  refine lv_topi (fun z45 e46 => ?_)
  obtain rfl : z45 = (0 : Int32) := e46
  refine lv_iadd hx hb dX0_sentInAll_17 ?_
  refine lv_topi (fun z47 e48 => ?_)
  obtain rfl : z47 = (0 : Int32) := e48.trans (by decide)
  refine lv_istore_n (lv' := [(1, .int 0), (2, .int 11), (0, .ref xa28)]) hx hb dX0_sentInAll_18 rfl hl (by decide) rfl (fun ls hl => ?_)
  refine lv_iinc (v := 12) (lv' := [(2, .int 12), (1, .int 0), (0, .ref xa28)]) hx hb dX0_sentInAll_19 hl (k := 1) rfl (by decide) (by decide) rfl (fun ls hl => ?_)
  refine lv_goto (tgt := 4) hx hb dX0_sentInAll_22 (by decide) ?_
  refine lv_iload_n hx hb dX0_sentInAll_4 rfl (lv_at hl 0 rfl) ?_
  refine lv_bipush (v := 30) hx hb dX0_sentInAll_5 (by decide) ?_
  refine lv_icmp_ge (tgt := 25) hx hb dX0_sentInAll_7 (by decide) (fun c9 => absurd c9 (by decide)) (fun _ => ?_)
  refine lv_iload_n hx hb dX0_sentInAll_10 rfl (lv_at hl 1 rfl) ?_
  refine lv_aload_n hx hb dX0_sentInAll_11 rfl (lv_at hl 2 rfl) ?_
  refine va_get (D := (dC, dI)) (ci := 0) (v := .ref xa30) (C := RX0) (T := TX0) (N := 10) hx hb hts hin0 hown hK hP 0 rfl rfl 1 (by decide) (hts (.fieldLink RX0 15 "PathProber$Condition" "sent" "[I") (List.mem_of_getElem? (i := 1) (by decide +kernel))) (fun _ h9 => h9) rfl dX0_sentInAll_12 ?_
  refine lv_iload_n hx hb dX0_sentInAll_15 rfl (lv_at hl 0 rfl) ?_
  refine va_iald hx hb hK hP 2 1 rfl rfl (vp_in_nI (n := 12) (by decide) (by decide)) dX0_sentInAll_16 ?_
  refine lv_topi (fun z49 e50 => ?_)
  obtain rfl : z49 = (0 : Int32) := e50
  refine lv_iadd hx hb dX0_sentInAll_17 ?_
  refine lv_topi (fun z51 e52 => ?_)
  obtain rfl : z51 = (0 : Int32) := e52.trans (by decide)
  refine lv_istore_n (lv' := [(1, .int 0), (2, .int 12), (0, .ref xa28)]) hx hb dX0_sentInAll_18 rfl hl (by decide) rfl (fun ls hl => ?_)
  refine lv_iinc (v := 13) (lv' := [(2, .int 13), (1, .int 0), (0, .ref xa28)]) hx hb dX0_sentInAll_19 hl (k := 1) rfl (by decide) (by decide) rfl (fun ls hl => ?_)
  refine lv_goto (tgt := 4) hx hb dX0_sentInAll_22 (by decide) ?_
  refine lv_iload_n hx hb dX0_sentInAll_4 rfl (lv_at hl 0 rfl) ?_
  refine lv_bipush (v := 30) hx hb dX0_sentInAll_5 (by decide) ?_
  refine lv_icmp_ge (tgt := 25) hx hb dX0_sentInAll_7 (by decide) (fun c9 => absurd c9 (by decide)) (fun _ => ?_)
  refine lv_iload_n hx hb dX0_sentInAll_10 rfl (lv_at hl 1 rfl) ?_
  refine lv_aload_n hx hb dX0_sentInAll_11 rfl (lv_at hl 2 rfl) ?_
  refine va_get (D := (dC, dI)) (ci := 0) (v := .ref xa30) (C := RX0) (T := TX0) (N := 10) hx hb hts hin0 hown hK hP 0 rfl rfl 1 (by decide) (hts (.fieldLink RX0 15 "PathProber$Condition" "sent" "[I") (List.mem_of_getElem? (i := 1) (by decide +kernel))) (fun _ h9 => h9) rfl dX0_sentInAll_12 ?_
  refine lv_iload_n hx hb dX0_sentInAll_15 rfl (lv_at hl 0 rfl) ?_
  refine va_iald hx hb hK hP 2 1 rfl rfl (vp_in_nI (n := 13) (by decide) (by decide)) dX0_sentInAll_16 ?_
  refine lv_topi (fun z53 e54 => ?_)
  obtain rfl : z53 = (0 : Int32) := e54
  refine lv_iadd hx hb dX0_sentInAll_17 ?_
  refine lv_topi (fun z55 e56 => ?_)
  obtain rfl : z55 = (0 : Int32) := e56.trans (by decide)
  refine lv_istore_n (lv' := [(1, .int 0), (2, .int 13), (0, .ref xa28)]) hx hb dX0_sentInAll_18 rfl hl (by decide) rfl (fun ls hl => ?_)
  refine lv_iinc (v := 14) (lv' := [(2, .int 14), (1, .int 0), (0, .ref xa28)]) hx hb dX0_sentInAll_19 hl (k := 1) rfl (by decide) (by decide) rfl (fun ls hl => ?_)
  refine lv_goto (tgt := 4) hx hb dX0_sentInAll_22 (by decide) ?_
  refine lv_iload_n hx hb dX0_sentInAll_4 rfl (lv_at hl 0 rfl) ?_
  refine lv_bipush (v := 30) hx hb dX0_sentInAll_5 (by decide) ?_
  refine lv_icmp_ge (tgt := 25) hx hb dX0_sentInAll_7 (by decide) (fun c9 => absurd c9 (by decide)) (fun _ => ?_)
  refine lv_iload_n hx hb dX0_sentInAll_10 rfl (lv_at hl 1 rfl) ?_
  refine lv_aload_n hx hb dX0_sentInAll_11 rfl (lv_at hl 2 rfl) ?_
  refine va_get (D := (dC, dI)) (ci := 0) (v := .ref xa30) (C := RX0) (T := TX0) (N := 10) hx hb hts hin0 hown hK hP 0 rfl rfl 1 (by decide) (hts (.fieldLink RX0 15 "PathProber$Condition" "sent" "[I") (List.mem_of_getElem? (i := 1) (by decide +kernel))) (fun _ h9 => h9) rfl dX0_sentInAll_12 ?_
  refine lv_iload_n hx hb dX0_sentInAll_15 rfl (lv_at hl 0 rfl) ?_
  refine va_iald hx hb hK hP 2 1 rfl rfl (vp_in_nI (n := 14) (by decide) (by decide)) dX0_sentInAll_16 ?_
  refine lv_topi (fun z57 e58 => ?_)
  obtain rfl : z57 = (0 : Int32) := e58
  refine lv_iadd hx hb dX0_sentInAll_17 ?_
  refine lv_topi (fun z59 e60 => ?_)
  obtain rfl : z59 = (0 : Int32) := e60.trans (by decide)
  refine lv_istore_n (lv' := [(1, .int 0), (2, .int 14), (0, .ref xa28)]) hx hb dX0_sentInAll_18 rfl hl (by decide) rfl (fun ls hl => ?_)
  refine lv_iinc (v := 15) (lv' := [(2, .int 15), (1, .int 0), (0, .ref xa28)]) hx hb dX0_sentInAll_19 hl (k := 1) rfl (by decide) (by decide) rfl (fun ls hl => ?_)
  refine lv_goto (tgt := 4) hx hb dX0_sentInAll_22 (by decide) ?_
  refine lv_iload_n hx hb dX0_sentInAll_4 rfl (lv_at hl 0 rfl) ?_
  refine lv_bipush (v := 30) hx hb dX0_sentInAll_5 (by decide) ?_
  refine lv_icmp_ge (tgt := 25) hx hb dX0_sentInAll_7 (by decide) (fun c9 => absurd c9 (by decide)) (fun _ => ?_)
  refine lv_iload_n hx hb dX0_sentInAll_10 rfl (lv_at hl 1 rfl) ?_
  refine lv_aload_n hx hb dX0_sentInAll_11 rfl (lv_at hl 2 rfl) ?_
  refine va_get (D := (dC, dI)) (ci := 0) (v := .ref xa30) (C := RX0) (T := TX0) (N := 10) hx hb hts hin0 hown hK hP 0 rfl rfl 1 (by decide) (hts (.fieldLink RX0 15 "PathProber$Condition" "sent" "[I") (List.mem_of_getElem? (i := 1) (by decide +kernel))) (fun _ h9 => h9) rfl dX0_sentInAll_12 ?_
  refine lv_iload_n hx hb dX0_sentInAll_15 rfl (lv_at hl 0 rfl) ?_
  refine va_iald hx hb hK hP 2 1 rfl rfl (vp_in_nI (n := 15) (by decide) (by decide)) dX0_sentInAll_16 ?_
  refine lv_topi (fun z61 e62 => ?_)
  obtain rfl : z61 = (0 : Int32) := e62
  refine lv_iadd hx hb dX0_sentInAll_17 ?_
  refine lv_topi (fun z63 e64 => ?_)
  obtain rfl : z63 = (0 : Int32) := e64.trans (by decide)
  refine lv_istore_n (lv' := [(1, .int 0), (2, .int 15), (0, .ref xa28)]) hx hb dX0_sentInAll_18 rfl hl (by decide) rfl (fun ls hl => ?_)
  refine lv_iinc (v := 16) (lv' := [(2, .int 16), (1, .int 0), (0, .ref xa28)]) hx hb dX0_sentInAll_19 hl (k := 1) rfl (by decide) (by decide) rfl (fun ls hl => ?_)
  refine lv_goto (tgt := 4) hx hb dX0_sentInAll_22 (by decide) ?_
  refine lv_iload_n hx hb dX0_sentInAll_4 rfl (lv_at hl 0 rfl) ?_
  refine lv_bipush (v := 30) hx hb dX0_sentInAll_5 (by decide) ?_
  refine lv_icmp_ge (tgt := 25) hx hb dX0_sentInAll_7 (by decide) (fun c9 => absurd c9 (by decide)) (fun _ => ?_)
  refine lv_iload_n hx hb dX0_sentInAll_10 rfl (lv_at hl 1 rfl) ?_
  refine lv_aload_n hx hb dX0_sentInAll_11 rfl (lv_at hl 2 rfl) ?_
  refine va_get (D := (dC, dI)) (ci := 0) (v := .ref xa30) (C := RX0) (T := TX0) (N := 10) hx hb hts hin0 hown hK hP 0 rfl rfl 1 (by decide) (hts (.fieldLink RX0 15 "PathProber$Condition" "sent" "[I") (List.mem_of_getElem? (i := 1) (by decide +kernel))) (fun _ h9 => h9) rfl dX0_sentInAll_12 ?_
  refine lv_iload_n hx hb dX0_sentInAll_15 rfl (lv_at hl 0 rfl) ?_
  refine va_iald hx hb hK hP 2 1 rfl rfl (vp_in_nI (n := 16) (by decide) (by decide)) dX0_sentInAll_16 ?_
  refine lv_topi (fun z65 e66 => ?_)
  obtain rfl : z65 = (0 : Int32) := e66
  refine lv_iadd hx hb dX0_sentInAll_17 ?_
  refine lv_topi (fun z67 e68 => ?_)
  obtain rfl : z67 = (0 : Int32) := e68.trans (by decide)
  refine lv_istore_n (lv' := [(1, .int 0), (2, .int 16), (0, .ref xa28)]) hx hb dX0_sentInAll_18 rfl hl (by decide) rfl (fun ls hl => ?_)
  refine lv_iinc (v := 17) (lv' := [(2, .int 17), (1, .int 0), (0, .ref xa28)]) hx hb dX0_sentInAll_19 hl (k := 1) rfl (by decide) (by decide) rfl (fun ls hl => ?_)
  refine lv_goto (tgt := 4) hx hb dX0_sentInAll_22 (by decide) ?_
  refine lv_iload_n hx hb dX0_sentInAll_4 rfl (lv_at hl 0 rfl) ?_
  refine lv_bipush (v := 30) hx hb dX0_sentInAll_5 (by decide) ?_
  refine lv_icmp_ge (tgt := 25) hx hb dX0_sentInAll_7 (by decide) (fun c9 => absurd c9 (by decide)) (fun _ => ?_)
  refine lv_iload_n hx hb dX0_sentInAll_10 rfl (lv_at hl 1 rfl) ?_
  refine lv_aload_n hx hb dX0_sentInAll_11 rfl (lv_at hl 2 rfl) ?_
  refine va_get (D := (dC, dI)) (ci := 0) (v := .ref xa30) (C := RX0) (T := TX0) (N := 10) hx hb hts hin0 hown hK hP 0 rfl rfl 1 (by decide) (hts (.fieldLink RX0 15 "PathProber$Condition" "sent" "[I") (List.mem_of_getElem? (i := 1) (by decide +kernel))) (fun _ h9 => h9) rfl dX0_sentInAll_12 ?_
  refine lv_iload_n hx hb dX0_sentInAll_15 rfl (lv_at hl 0 rfl) ?_
  refine va_iald hx hb hK hP 2 1 rfl rfl (vp_in_nI (n := 17) (by decide) (by decide)) dX0_sentInAll_16 ?_
  refine lv_topi (fun z69 e70 => ?_)
  obtain rfl : z69 = (0 : Int32) := e70
  refine lv_iadd hx hb dX0_sentInAll_17 ?_
  refine lv_topi (fun z71 e72 => ?_)
  obtain rfl : z71 = (0 : Int32) := e72.trans (by decide)
  refine lv_istore_n (lv' := [(1, .int 0), (2, .int 17), (0, .ref xa28)]) hx hb dX0_sentInAll_18 rfl hl (by decide) rfl (fun ls hl => ?_)
  refine lv_iinc (v := 18) (lv' := [(2, .int 18), (1, .int 0), (0, .ref xa28)]) hx hb dX0_sentInAll_19 hl (k := 1) rfl (by decide) (by decide) rfl (fun ls hl => ?_)
  refine lv_goto (tgt := 4) hx hb dX0_sentInAll_22 (by decide) ?_
  refine lv_iload_n hx hb dX0_sentInAll_4 rfl (lv_at hl 0 rfl) ?_
  refine lv_bipush (v := 30) hx hb dX0_sentInAll_5 (by decide) ?_
  refine lv_icmp_ge (tgt := 25) hx hb dX0_sentInAll_7 (by decide) (fun c9 => absurd c9 (by decide)) (fun _ => ?_)
  refine lv_iload_n hx hb dX0_sentInAll_10 rfl (lv_at hl 1 rfl) ?_
  refine lv_aload_n hx hb dX0_sentInAll_11 rfl (lv_at hl 2 rfl) ?_
  refine va_get (D := (dC, dI)) (ci := 0) (v := .ref xa30) (C := RX0) (T := TX0) (N := 10) hx hb hts hin0 hown hK hP 0 rfl rfl 1 (by decide) (hts (.fieldLink RX0 15 "PathProber$Condition" "sent" "[I") (List.mem_of_getElem? (i := 1) (by decide +kernel))) (fun _ h9 => h9) rfl dX0_sentInAll_12 ?_
  refine lv_iload_n hx hb dX0_sentInAll_15 rfl (lv_at hl 0 rfl) ?_
  refine va_iald hx hb hK hP 2 1 rfl rfl (vp_in_nI (n := 18) (by decide) (by decide)) dX0_sentInAll_16 ?_
  refine lv_topi (fun z73 e74 => ?_)
  obtain rfl : z73 = (0 : Int32) := e74
  refine lv_iadd hx hb dX0_sentInAll_17 ?_
  refine lv_topi (fun z75 e76 => ?_)
  obtain rfl : z75 = (0 : Int32) := e76.trans (by decide)
  refine lv_istore_n (lv' := [(1, .int 0), (2, .int 18), (0, .ref xa28)]) hx hb dX0_sentInAll_18 rfl hl (by decide) rfl (fun ls hl => ?_)
  refine lv_iinc (v := 19) (lv' := [(2, .int 19), (1, .int 0), (0, .ref xa28)]) hx hb dX0_sentInAll_19 hl (k := 1) rfl (by decide) (by decide) rfl (fun ls hl => ?_)
  refine lv_goto (tgt := 4) hx hb dX0_sentInAll_22 (by decide) ?_
  refine lv_iload_n hx hb dX0_sentInAll_4 rfl (lv_at hl 0 rfl) ?_
  refine lv_bipush (v := 30) hx hb dX0_sentInAll_5 (by decide) ?_
  refine lv_icmp_ge (tgt := 25) hx hb dX0_sentInAll_7 (by decide) (fun c9 => absurd c9 (by decide)) (fun _ => ?_)
  refine lv_iload_n hx hb dX0_sentInAll_10 rfl (lv_at hl 1 rfl) ?_
  refine lv_aload_n hx hb dX0_sentInAll_11 rfl (lv_at hl 2 rfl) ?_
  refine va_get (D := (dC, dI)) (ci := 0) (v := .ref xa30) (C := RX0) (T := TX0) (N := 10) hx hb hts hin0 hown hK hP 0 rfl rfl 1 (by decide) (hts (.fieldLink RX0 15 "PathProber$Condition" "sent" "[I") (List.mem_of_getElem? (i := 1) (by decide +kernel))) (fun _ h9 => h9) rfl dX0_sentInAll_12 ?_
  refine lv_iload_n hx hb dX0_sentInAll_15 rfl (lv_at hl 0 rfl) ?_
  refine va_iald hx hb hK hP 2 1 rfl rfl (vp_in_nI (n := 19) (by decide) (by decide)) dX0_sentInAll_16 ?_
  refine lv_topi (fun z77 e78 => ?_)
  obtain rfl : z77 = (0 : Int32) := e78
  refine lv_iadd hx hb dX0_sentInAll_17 ?_
  refine lv_topi (fun z79 e80 => ?_)
  obtain rfl : z79 = (0 : Int32) := e80.trans (by decide)
  refine lv_istore_n (lv' := [(1, .int 0), (2, .int 19), (0, .ref xa28)]) hx hb dX0_sentInAll_18 rfl hl (by decide) rfl (fun ls hl => ?_)
  refine lv_iinc (v := 20) (lv' := [(2, .int 20), (1, .int 0), (0, .ref xa28)]) hx hb dX0_sentInAll_19 hl (k := 1) rfl (by decide) (by decide) rfl (fun ls hl => ?_)
  refine lv_goto (tgt := 4) hx hb dX0_sentInAll_22 (by decide) ?_
  refine lv_iload_n hx hb dX0_sentInAll_4 rfl (lv_at hl 0 rfl) ?_
  refine lv_bipush (v := 30) hx hb dX0_sentInAll_5 (by decide) ?_
  refine lv_icmp_ge (tgt := 25) hx hb dX0_sentInAll_7 (by decide) (fun c9 => absurd c9 (by decide)) (fun _ => ?_)
  refine lv_iload_n hx hb dX0_sentInAll_10 rfl (lv_at hl 1 rfl) ?_
  refine lv_aload_n hx hb dX0_sentInAll_11 rfl (lv_at hl 2 rfl) ?_
  refine va_get (D := (dC, dI)) (ci := 0) (v := .ref xa30) (C := RX0) (T := TX0) (N := 10) hx hb hts hin0 hown hK hP 0 rfl rfl 1 (by decide) (hts (.fieldLink RX0 15 "PathProber$Condition" "sent" "[I") (List.mem_of_getElem? (i := 1) (by decide +kernel))) (fun _ h9 => h9) rfl dX0_sentInAll_12 ?_
  refine lv_iload_n hx hb dX0_sentInAll_15 rfl (lv_at hl 0 rfl) ?_
  refine va_iald hx hb hK hP 2 1 rfl rfl (vp_in_nI (n := 20) (by decide) (by decide)) dX0_sentInAll_16 ?_
  refine lv_topi (fun z81 e82 => ?_)
  obtain rfl : z81 = (0 : Int32) := e82
  refine lv_iadd hx hb dX0_sentInAll_17 ?_
  refine lv_topi (fun z83 e84 => ?_)
  obtain rfl : z83 = (0 : Int32) := e84.trans (by decide)
  refine lv_istore_n (lv' := [(1, .int 0), (2, .int 20), (0, .ref xa28)]) hx hb dX0_sentInAll_18 rfl hl (by decide) rfl (fun ls hl => ?_)
  refine lv_iinc (v := 21) (lv' := [(2, .int 21), (1, .int 0), (0, .ref xa28)]) hx hb dX0_sentInAll_19 hl (k := 1) rfl (by decide) (by decide) rfl (fun ls hl => ?_)
  refine lv_goto (tgt := 4) hx hb dX0_sentInAll_22 (by decide) ?_
  refine lv_iload_n hx hb dX0_sentInAll_4 rfl (lv_at hl 0 rfl) ?_
  refine lv_bipush (v := 30) hx hb dX0_sentInAll_5 (by decide) ?_
  refine lv_icmp_ge (tgt := 25) hx hb dX0_sentInAll_7 (by decide) (fun c9 => absurd c9 (by decide)) (fun _ => ?_)
  refine lv_iload_n hx hb dX0_sentInAll_10 rfl (lv_at hl 1 rfl) ?_
  refine lv_aload_n hx hb dX0_sentInAll_11 rfl (lv_at hl 2 rfl) ?_
  refine va_get (D := (dC, dI)) (ci := 0) (v := .ref xa30) (C := RX0) (T := TX0) (N := 10) hx hb hts hin0 hown hK hP 0 rfl rfl 1 (by decide) (hts (.fieldLink RX0 15 "PathProber$Condition" "sent" "[I") (List.mem_of_getElem? (i := 1) (by decide +kernel))) (fun _ h9 => h9) rfl dX0_sentInAll_12 ?_
  refine lv_iload_n hx hb dX0_sentInAll_15 rfl (lv_at hl 0 rfl) ?_
  refine va_iald hx hb hK hP 2 1 rfl rfl (vp_in_nI (n := 21) (by decide) (by decide)) dX0_sentInAll_16 ?_
  refine lv_topi (fun z85 e86 => ?_)
  obtain rfl : z85 = (0 : Int32) := e86
  refine lv_iadd hx hb dX0_sentInAll_17 ?_
  refine lv_topi (fun z87 e88 => ?_)
  obtain rfl : z87 = (0 : Int32) := e88.trans (by decide)
  refine lv_istore_n (lv' := [(1, .int 0), (2, .int 21), (0, .ref xa28)]) hx hb dX0_sentInAll_18 rfl hl (by decide) rfl (fun ls hl => ?_)
  refine lv_iinc (v := 22) (lv' := [(2, .int 22), (1, .int 0), (0, .ref xa28)]) hx hb dX0_sentInAll_19 hl (k := 1) rfl (by decide) (by decide) rfl (fun ls hl => ?_)
  refine lv_goto (tgt := 4) hx hb dX0_sentInAll_22 (by decide) ?_
  refine lv_iload_n hx hb dX0_sentInAll_4 rfl (lv_at hl 0 rfl) ?_
  refine lv_bipush (v := 30) hx hb dX0_sentInAll_5 (by decide) ?_
  refine lv_icmp_ge (tgt := 25) hx hb dX0_sentInAll_7 (by decide) (fun c9 => absurd c9 (by decide)) (fun _ => ?_)
  refine lv_iload_n hx hb dX0_sentInAll_10 rfl (lv_at hl 1 rfl) ?_
  refine lv_aload_n hx hb dX0_sentInAll_11 rfl (lv_at hl 2 rfl) ?_
  refine va_get (D := (dC, dI)) (ci := 0) (v := .ref xa30) (C := RX0) (T := TX0) (N := 10) hx hb hts hin0 hown hK hP 0 rfl rfl 1 (by decide) (hts (.fieldLink RX0 15 "PathProber$Condition" "sent" "[I") (List.mem_of_getElem? (i := 1) (by decide +kernel))) (fun _ h9 => h9) rfl dX0_sentInAll_12 ?_
  refine lv_iload_n hx hb dX0_sentInAll_15 rfl (lv_at hl 0 rfl) ?_
  refine va_iald hx hb hK hP 2 1 rfl rfl (vp_in_nI (n := 22) (by decide) (by decide)) dX0_sentInAll_16 ?_
  refine lv_topi (fun z89 e90 => ?_)
  obtain rfl : z89 = (0 : Int32) := e90
  refine lv_iadd hx hb dX0_sentInAll_17 ?_
  refine lv_topi (fun z91 e92 => ?_)
  obtain rfl : z91 = (0 : Int32) := e92.trans (by decide)
  refine lv_istore_n (lv' := [(1, .int 0), (2, .int 22), (0, .ref xa28)]) hx hb dX0_sentInAll_18 rfl hl (by decide) rfl (fun ls hl => ?_)
  refine lv_iinc (v := 23) (lv' := [(2, .int 23), (1, .int 0), (0, .ref xa28)]) hx hb dX0_sentInAll_19 hl (k := 1) rfl (by decide) (by decide) rfl (fun ls hl => ?_)
  refine lv_goto (tgt := 4) hx hb dX0_sentInAll_22 (by decide) ?_
  refine lv_iload_n hx hb dX0_sentInAll_4 rfl (lv_at hl 0 rfl) ?_
  refine lv_bipush (v := 30) hx hb dX0_sentInAll_5 (by decide) ?_
  refine lv_icmp_ge (tgt := 25) hx hb dX0_sentInAll_7 (by decide) (fun c9 => absurd c9 (by decide)) (fun _ => ?_)
  refine lv_iload_n hx hb dX0_sentInAll_10 rfl (lv_at hl 1 rfl) ?_
  refine lv_aload_n hx hb dX0_sentInAll_11 rfl (lv_at hl 2 rfl) ?_
  refine va_get (D := (dC, dI)) (ci := 0) (v := .ref xa30) (C := RX0) (T := TX0) (N := 10) hx hb hts hin0 hown hK hP 0 rfl rfl 1 (by decide) (hts (.fieldLink RX0 15 "PathProber$Condition" "sent" "[I") (List.mem_of_getElem? (i := 1) (by decide +kernel))) (fun _ h9 => h9) rfl dX0_sentInAll_12 ?_
  refine lv_iload_n hx hb dX0_sentInAll_15 rfl (lv_at hl 0 rfl) ?_
  refine va_iald hx hb hK hP 2 1 rfl rfl (vp_in_nI (n := 23) (by decide) (by decide)) dX0_sentInAll_16 ?_
  refine lv_topi (fun z93 e94 => ?_)
  obtain rfl : z93 = (0 : Int32) := e94
  refine lv_iadd hx hb dX0_sentInAll_17 ?_
  refine lv_topi (fun z95 e96 => ?_)
  obtain rfl : z95 = (0 : Int32) := e96.trans (by decide)
  refine lv_istore_n (lv' := [(1, .int 0), (2, .int 23), (0, .ref xa28)]) hx hb dX0_sentInAll_18 rfl hl (by decide) rfl (fun ls hl => ?_)
  refine lv_iinc (v := 24) (lv' := [(2, .int 24), (1, .int 0), (0, .ref xa28)]) hx hb dX0_sentInAll_19 hl (k := 1) rfl (by decide) (by decide) rfl (fun ls hl => ?_)
  refine lv_goto (tgt := 4) hx hb dX0_sentInAll_22 (by decide) ?_
  refine lv_iload_n hx hb dX0_sentInAll_4 rfl (lv_at hl 0 rfl) ?_
  refine lv_bipush (v := 30) hx hb dX0_sentInAll_5 (by decide) ?_
  refine lv_icmp_ge (tgt := 25) hx hb dX0_sentInAll_7 (by decide) (fun c9 => absurd c9 (by decide)) (fun _ => ?_)
  refine lv_iload_n hx hb dX0_sentInAll_10 rfl (lv_at hl 1 rfl) ?_
  refine lv_aload_n hx hb dX0_sentInAll_11 rfl (lv_at hl 2 rfl) ?_
  refine va_get (D := (dC, dI)) (ci := 0) (v := .ref xa30) (C := RX0) (T := TX0) (N := 10) hx hb hts hin0 hown hK hP 0 rfl rfl 1 (by decide) (hts (.fieldLink RX0 15 "PathProber$Condition" "sent" "[I") (List.mem_of_getElem? (i := 1) (by decide +kernel))) (fun _ h9 => h9) rfl dX0_sentInAll_12 ?_
  refine lv_iload_n hx hb dX0_sentInAll_15 rfl (lv_at hl 0 rfl) ?_
  refine va_iald hx hb hK hP 2 1 rfl rfl (vp_in_nI (n := 24) (by decide) (by decide)) dX0_sentInAll_16 ?_
  refine lv_topi (fun z97 e98 => ?_)
  obtain rfl : z97 = (0 : Int32) := e98
  refine lv_iadd hx hb dX0_sentInAll_17 ?_
  refine lv_topi (fun z99 e100 => ?_)
  obtain rfl : z99 = (0 : Int32) := e100.trans (by decide)
  refine lv_istore_n (lv' := [(1, .int 0), (2, .int 24), (0, .ref xa28)]) hx hb dX0_sentInAll_18 rfl hl (by decide) rfl (fun ls hl => ?_)
  refine lv_iinc (v := 25) (lv' := [(2, .int 25), (1, .int 0), (0, .ref xa28)]) hx hb dX0_sentInAll_19 hl (k := 1) rfl (by decide) (by decide) rfl (fun ls hl => ?_)
  refine lv_goto (tgt := 4) hx hb dX0_sentInAll_22 (by decide) ?_
  refine lv_iload_n hx hb dX0_sentInAll_4 rfl (lv_at hl 0 rfl) ?_
  refine lv_bipush (v := 30) hx hb dX0_sentInAll_5 (by decide) ?_
  refine lv_icmp_ge (tgt := 25) hx hb dX0_sentInAll_7 (by decide) (fun c9 => absurd c9 (by decide)) (fun _ => ?_)
  refine lv_iload_n hx hb dX0_sentInAll_10 rfl (lv_at hl 1 rfl) ?_
  refine lv_aload_n hx hb dX0_sentInAll_11 rfl (lv_at hl 2 rfl) ?_
  refine va_get (D := (dC, dI)) (ci := 0) (v := .ref xa30) (C := RX0) (T := TX0) (N := 10) hx hb hts hin0 hown hK hP 0 rfl rfl 1 (by decide) (hts (.fieldLink RX0 15 "PathProber$Condition" "sent" "[I") (List.mem_of_getElem? (i := 1) (by decide +kernel))) (fun _ h9 => h9) rfl dX0_sentInAll_12 ?_
  refine lv_iload_n hx hb dX0_sentInAll_15 rfl (lv_at hl 0 rfl) ?_
  refine va_iald hx hb hK hP 2 1 rfl rfl (vp_in_nI (n := 25) (by decide) (by decide)) dX0_sentInAll_16 ?_
  refine lv_topi (fun z101 e102 => ?_)
  obtain rfl : z101 = (0 : Int32) := e102
  refine lv_iadd hx hb dX0_sentInAll_17 ?_
  refine lv_topi (fun z103 e104 => ?_)
  obtain rfl : z103 = (0 : Int32) := e104.trans (by decide)
  refine lv_istore_n (lv' := [(1, .int 0), (2, .int 25), (0, .ref xa28)]) hx hb dX0_sentInAll_18 rfl hl (by decide) rfl (fun ls hl => ?_)
  refine lv_iinc (v := 26) (lv' := [(2, .int 26), (1, .int 0), (0, .ref xa28)]) hx hb dX0_sentInAll_19 hl (k := 1) rfl (by decide) (by decide) rfl (fun ls hl => ?_)
  refine lv_goto (tgt := 4) hx hb dX0_sentInAll_22 (by decide) ?_
  refine lv_iload_n hx hb dX0_sentInAll_4 rfl (lv_at hl 0 rfl) ?_
  refine lv_bipush (v := 30) hx hb dX0_sentInAll_5 (by decide) ?_
  refine lv_icmp_ge (tgt := 25) hx hb dX0_sentInAll_7 (by decide) (fun c9 => absurd c9 (by decide)) (fun _ => ?_)
  refine lv_iload_n hx hb dX0_sentInAll_10 rfl (lv_at hl 1 rfl) ?_
  refine lv_aload_n hx hb dX0_sentInAll_11 rfl (lv_at hl 2 rfl) ?_
  refine va_get (D := (dC, dI)) (ci := 0) (v := .ref xa30) (C := RX0) (T := TX0) (N := 10) hx hb hts hin0 hown hK hP 0 rfl rfl 1 (by decide) (hts (.fieldLink RX0 15 "PathProber$Condition" "sent" "[I") (List.mem_of_getElem? (i := 1) (by decide +kernel))) (fun _ h9 => h9) rfl dX0_sentInAll_12 ?_
  refine lv_iload_n hx hb dX0_sentInAll_15 rfl (lv_at hl 0 rfl) ?_
  refine va_iald hx hb hK hP 2 1 rfl rfl (vp_in_nI (n := 26) (by decide) (by decide)) dX0_sentInAll_16 ?_
  refine lv_topi (fun z105 e106 => ?_)
  obtain rfl : z105 = (0 : Int32) := e106
  refine lv_iadd hx hb dX0_sentInAll_17 ?_
  refine lv_topi (fun z107 e108 => ?_)
  obtain rfl : z107 = (0 : Int32) := e108.trans (by decide)
  refine lv_istore_n (lv' := [(1, .int 0), (2, .int 26), (0, .ref xa28)]) hx hb dX0_sentInAll_18 rfl hl (by decide) rfl (fun ls hl => ?_)
  refine lv_iinc (v := 27) (lv' := [(2, .int 27), (1, .int 0), (0, .ref xa28)]) hx hb dX0_sentInAll_19 hl (k := 1) rfl (by decide) (by decide) rfl (fun ls hl => ?_)
  refine lv_goto (tgt := 4) hx hb dX0_sentInAll_22 (by decide) ?_
  refine lv_iload_n hx hb dX0_sentInAll_4 rfl (lv_at hl 0 rfl) ?_
  refine lv_bipush (v := 30) hx hb dX0_sentInAll_5 (by decide) ?_
  refine lv_icmp_ge (tgt := 25) hx hb dX0_sentInAll_7 (by decide) (fun c9 => absurd c9 (by decide)) (fun _ => ?_)
  refine lv_iload_n hx hb dX0_sentInAll_10 rfl (lv_at hl 1 rfl) ?_
  refine lv_aload_n hx hb dX0_sentInAll_11 rfl (lv_at hl 2 rfl) ?_
  refine va_get (D := (dC, dI)) (ci := 0) (v := .ref xa30) (C := RX0) (T := TX0) (N := 10) hx hb hts hin0 hown hK hP 0 rfl rfl 1 (by decide) (hts (.fieldLink RX0 15 "PathProber$Condition" "sent" "[I") (List.mem_of_getElem? (i := 1) (by decide +kernel))) (fun _ h9 => h9) rfl dX0_sentInAll_12 ?_
  refine lv_iload_n hx hb dX0_sentInAll_15 rfl (lv_at hl 0 rfl) ?_
  refine va_iald hx hb hK hP 2 1 rfl rfl (vp_in_nI (n := 27) (by decide) (by decide)) dX0_sentInAll_16 ?_
  refine lv_topi (fun z109 e110 => ?_)
  obtain rfl : z109 = (0 : Int32) := e110
  refine lv_iadd hx hb dX0_sentInAll_17 ?_
  refine lv_topi (fun z111 e112 => ?_)
  obtain rfl : z111 = (0 : Int32) := e112.trans (by decide)
  refine lv_istore_n (lv' := [(1, .int 0), (2, .int 27), (0, .ref xa28)]) hx hb dX0_sentInAll_18 rfl hl (by decide) rfl (fun ls hl => ?_)
  refine lv_iinc (v := 28) (lv' := [(2, .int 28), (1, .int 0), (0, .ref xa28)]) hx hb dX0_sentInAll_19 hl (k := 1) rfl (by decide) (by decide) rfl (fun ls hl => ?_)
  refine lv_goto (tgt := 4) hx hb dX0_sentInAll_22 (by decide) ?_
  refine lv_iload_n hx hb dX0_sentInAll_4 rfl (lv_at hl 0 rfl) ?_
  refine lv_bipush (v := 30) hx hb dX0_sentInAll_5 (by decide) ?_
  refine lv_icmp_ge (tgt := 25) hx hb dX0_sentInAll_7 (by decide) (fun c9 => absurd c9 (by decide)) (fun _ => ?_)
  refine lv_iload_n hx hb dX0_sentInAll_10 rfl (lv_at hl 1 rfl) ?_
  refine lv_aload_n hx hb dX0_sentInAll_11 rfl (lv_at hl 2 rfl) ?_
  refine va_get (D := (dC, dI)) (ci := 0) (v := .ref xa30) (C := RX0) (T := TX0) (N := 10) hx hb hts hin0 hown hK hP 0 rfl rfl 1 (by decide) (hts (.fieldLink RX0 15 "PathProber$Condition" "sent" "[I") (List.mem_of_getElem? (i := 1) (by decide +kernel))) (fun _ h9 => h9) rfl dX0_sentInAll_12 ?_
  refine lv_iload_n hx hb dX0_sentInAll_15 rfl (lv_at hl 0 rfl) ?_
  refine va_iald hx hb hK hP 2 1 rfl rfl (vp_in_nI (n := 28) (by decide) (by decide)) dX0_sentInAll_16 ?_
  refine lv_topi (fun z113 e114 => ?_)
  obtain rfl : z113 = (0 : Int32) := e114
  refine lv_iadd hx hb dX0_sentInAll_17 ?_
  refine lv_topi (fun z115 e116 => ?_)
  obtain rfl : z115 = (0 : Int32) := e116.trans (by decide)
  refine lv_istore_n (lv' := [(1, .int 0), (2, .int 28), (0, .ref xa28)]) hx hb dX0_sentInAll_18 rfl hl (by decide) rfl (fun ls hl => ?_)
  refine lv_iinc (v := 29) (lv' := [(2, .int 29), (1, .int 0), (0, .ref xa28)]) hx hb dX0_sentInAll_19 hl (k := 1) rfl (by decide) (by decide) rfl (fun ls hl => ?_)
  refine lv_goto (tgt := 4) hx hb dX0_sentInAll_22 (by decide) ?_
  refine lv_iload_n hx hb dX0_sentInAll_4 rfl (lv_at hl 0 rfl) ?_
  refine lv_bipush (v := 30) hx hb dX0_sentInAll_5 (by decide) ?_
  refine lv_icmp_ge (tgt := 25) hx hb dX0_sentInAll_7 (by decide) (fun c9 => absurd c9 (by decide)) (fun _ => ?_)
  refine lv_iload_n hx hb dX0_sentInAll_10 rfl (lv_at hl 1 rfl) ?_
  refine lv_aload_n hx hb dX0_sentInAll_11 rfl (lv_at hl 2 rfl) ?_
  refine va_get (D := (dC, dI)) (ci := 0) (v := .ref xa30) (C := RX0) (T := TX0) (N := 10) hx hb hts hin0 hown hK hP 0 rfl rfl 1 (by decide) (hts (.fieldLink RX0 15 "PathProber$Condition" "sent" "[I") (List.mem_of_getElem? (i := 1) (by decide +kernel))) (fun _ h9 => h9) rfl dX0_sentInAll_12 ?_
  refine lv_iload_n hx hb dX0_sentInAll_15 rfl (lv_at hl 0 rfl) ?_
  refine va_iald hx hb hK hP 2 1 rfl rfl (vp_in_nI (n := 29) (by decide) (by decide)) dX0_sentInAll_16 ?_
  refine lv_topi (fun z117 e118 => ?_)
  obtain rfl : z117 = (0 : Int32) := e118
  refine lv_iadd hx hb dX0_sentInAll_17 ?_
  refine lv_topi (fun z119 e120 => ?_)
  obtain rfl : z119 = (0 : Int32) := e120.trans (by decide)
  refine lv_istore_n (lv' := [(1, .int 0), (2, .int 29), (0, .ref xa28)]) hx hb dX0_sentInAll_18 rfl hl (by decide) rfl (fun ls hl => ?_)
  refine lv_iinc (v := 30) (lv' := [(2, .int 30), (1, .int 0), (0, .ref xa28)]) hx hb dX0_sentInAll_19 hl (k := 1) rfl (by decide) (by decide) rfl (fun ls hl => ?_)
  refine lv_goto (tgt := 4) hx hb dX0_sentInAll_22 (by decide) ?_
  refine lv_iload_n hx hb dX0_sentInAll_4 rfl (lv_at hl 0 rfl) ?_
  refine lv_bipush (v := 30) hx hb dX0_sentInAll_5 (by decide) ?_
  refine lv_icmp_ge (tgt := 25) hx hb dX0_sentInAll_7 (by decide) (fun _ => ?_) (fun c9 => absurd (by decide) c9)
  refine lv_iload_n hx hb dX0_sentInAll_25 rfl (lv_at hl 1 rfl) ?_
  have hP9 := hP.sub (ws' := [(xa28, .inr (0, [.ref xa29, .ref xa30, .ref xa31, .ref xa32, .int u0, .int u1, .int u2, .int u3, .int u4, .int u5])), (xa29, .inl (kJ, 96, .inr (.inl f1))), (xa30, .inl (kI, 30, .inl (fun _ => 0))), (xa31, .inl (kI, 12, .inl f3)), (xa32, .inl (kI, 12, .inl f4))]) [0, 1, 2, 3, 4] rfl
  have hD9 := hD.sub (ws' := [(xa28, .inr (0, [.ref xa29, .ref xa30, .ref xa31, .ref xa32, .int u0, .int u1, .int u2, .int u3, .int u4, .int u5])), (xa29, .inl (kJ, 96, .inr (.inl f1))), (xa30, .inl (kI, 30, .inl (fun _ => 0))), (xa31, .inl (kI, 12, .inl f3)), (xa32, .inl (kI, 12, .inl f4))]) [0, 1, 2, 3, 4] (by decide) rfl
  exact W.iret (v := 0) hx hb hr (fun t ht hW => ⟨⟨0, (), rfl, rfl, by rw [ht]; exact hP9, hD9⟩, hS.F ht⟩) hS.2.2 dX0_sentInAll_26
def rm_k0_countersInAll : Room := { frames := 0, cells := 0, slots := 0, locals := 0 }
set_option maxHeartbeats 4000000 in
set_option maxRecDepth 100000 in
theorem k0_countersInAll (l : Launch) (dC : Nat → ClassId) (dI : Nat → Nat → Nat) (kB kI kJ kZ kC kS : ClassId) (sz : Nat) (xa28 : Nat) (xa29 : Nat) (xa30 : Nat) (xa31 : Nat) (xa32 : Nat) (u0 : Int32) (u1 : Int32) (u2 : Int32) (u3 : Int32) (u4 : Int32) (u5 : Int32) (f1 : Nat → Int64) (f2 : Nat → Int32) (f3 : Nat → Int32) : Met l yX0_countersInAll wsX0_countersInAll rm_k0_countersInAll (va_Pc [.ref xa28] (fun U => U.heap.size = sz ∧ va_P (dC, dI) vwCl [(xa28, .inr (0, [.ref xa29, .ref xa30, .ref xa31, .ref xa32, .int u0, .int u1, .int u2, .int u3, .int u4, .int u5])), (xa29, .inl (kJ, 96, .inr (.inl f1))), (xa30, .inl (kI, 30, .inl f2)), (xa31, .inl (kI, 12, .inl f3)), (xa32, .inl (kI, 12, .inl (fun _ => 0)))] U.heap ∧ kE dC dI kB kI kJ kZ kC kS U ∧ va_D (fun _ => True) [(xa28, .inr (0, [.ref xa29, .ref xa30, .ref xa31, .ref xa32, .int u0, .int u1, .int u2, .int u3, .int u4, .int u5])), (xa29, .inl (kJ, 96, .inr (.inl f1))), (xa30, .inl (kI, 30, .inl f2)), (xa31, .inl (kI, 12, .inl f3)), (xa32, .inl (kI, 12, .inl (fun _ => 0)))])) (va_Qi (fun (r : Int32) (_ : Unit) => r = 0) (fun _ t => va_P (dC, dI) vwCl [(xa28, .inr (0, [.ref xa29, .ref xa30, .ref xa31, .ref xa32, .int u0, .int u1, .int u2, .int u3, .int u4, .int u5])), (xa29, .inl (kJ, 96, .inr (.inl f1))), (xa30, .inl (kI, 30, .inl f2)), (xa31, .inl (kI, 12, .inl f3)), (xa32, .inl (kI, 12, .inl (fun _ => 0)))] t.heap ∧ va_D (va_A [(xa28, .inr (0, [.ref xa29, .ref xa30, .ref xa31, .ref xa32, .int u0, .int u1, .int u2, .int u3, .int u4, .int u5])), (xa29, .inl (kJ, 96, .inr (.inl f1))), (xa30, .inl (kI, 30, .inl f2)), (xa31, .inl (kI, 12, .inl f3)), (xa32, .inl (kI, 12, .inl (fun _ => 0)))] sz) [(xa28, .inr (0, [.ref xa29, .ref xa30, .ref xa31, .ref xa32, .int u0, .int u1, .int u2, .int u3, .int u4, .int u5])), (xa29, .inl (kJ, 96, .inr (.inl f1))), (xa30, .inl (kI, 30, .inl f2)), (xa31, .inl (kI, 12, .inl f3)), (xa32, .inl (kI, 12, .inl (fun _ => 0)))]) (va_A [(xa28, .inr (0, [.ref xa29, .ref xa30, .ref xa31, .ref xa32, .int u0, .int u1, .int u2, .int u3, .int u4, .int u5])), (xa29, .inl (kJ, 96, .inr (.inl f1))), (xa30, .inl (kI, 30, .inl f2)), (xa31, .inl (kI, 12, .inl f3)), (xa32, .inl (kI, 12, .inl (fun _ => 0)))] sz)) 0 0 (va_A [(xa28, .inr (0, [.ref xa29, .ref xa30, .ref xa31, .ref xa32, .int u0, .int u1, .int u2, .int u3, .int u4, .int u5])), (xa29, .inl (kJ, 96, .inr (.inl f1))), (xa30, .inl (kI, 30, .inl f2)), (xa31, .inl (kI, 12, .inl f3)), (xa32, .inl (kI, 12, .inl (fun _ => 0)))] sz) := by
  refine Met.ofW (cc := cX0_countersInAll) (maxL := 3) (ret := (some .int)) (by decide) rfl ?_
  intro p e s m args0 below meth c s₁ B hml hv
  obtain ⟨hargs, hsz, hP, hE, hD0⟩ := hv
  have hx := B.exec
  have hb := B.bytes
  have hr := B.returns
  have hts := atoms_spec (ws := wsX0_countersInAll) B.pre
  have hown : s.vm.findClass RX0 = some m.cls := findClass_of_methodNamed B.named
  have hlocks := B.notSynchronized
  have hK := hE.1
  have hin0 : ∀ w ∈ wsX00, w ∈ wsX0_countersInAll := fun _ h9 => List.mem_cons_of_mem _ (List.mem_append_right _ h9)
  subst hsz
  have hD := hD0.self (sz := s.heap.size)
  generalize hAe : va_A [(xa28, .inr (0, [.ref xa29, .ref xa30, .ref xa31, .ref xa32, .int u0, .int u1, .int u2, .int u3, .int u4, .int u5])), (xa29, .inl (kJ, 96, .inr (.inl f1))), (xa30, .inl (kI, 30, .inl f2)), (xa31, .inl (kI, 12, .inl f3)), (xa32, .inl (kI, 12, .inl (fun _ => 0)))] s.heap.size = A at hD ⊢
  have hA : ∀ q : Nat, s.heap.size ≤ q → A q := fun q h => by rw [← hAe]; exact Or.inr h
  have hS : va_S A s.heap s.heap [] := va_S.rf
  have hP : va_P (dC, dI) vwCl [(xa28, .inr (0, [.ref xa29, .ref xa30, .ref xa31, .ref xa32, .int u0, .int u1, .int u2, .int u3, .int u4, .int u5])), (xa29, .inl (kJ, 96, .inr (.inl f1))), (xa30, .inl (kI, 30, .inl f2)), (xa31, .inl (kI, 12, .inl f3)), (xa32, .inl (kI, 12, .inl (fun _ => 0)))] s.heap := hP
  have hl := lv_entry ([.ref xa28]) (n := 3) (Nat.le_of_ble_eq_true rfl)
  have hla : entryFrame m args0 3 = entryFrame m ([.ref xa28] : List Value).toArray 3 := by rw [hargs]
  rw [hla, lg_entry_eq]
  generalize (lg_sl ([.ref xa28]) ++ List.replicate (3 - (lg_sl ([.ref xa28])).length) Slot.unset).toArray = ls at hl ⊢
  have hl : lv_has ls 3 [(0, .ref xa28)] := hl
  refine lv_iconst (v := 0) hx hb dX0_countersInAll_0 (by decide) ?_
  refine lv_istore_n (lv' := [(1, .int 0), (0, .ref xa28)]) hx hb dX0_countersInAll_1 rfl hl (by decide) rfl (fun ls hl => ?_)
  refine lv_iconst (v := 0) hx hb dX0_countersInAll_2 (by decide) ?_
  refine lv_istore_n (lv' := [(2, .int 0), (1, .int 0), (0, .ref xa28)]) hx hb dX0_countersInAll_3 rfl hl (by decide) rfl (fun ls hl => ?_)
  refine lv_iload_n hx hb dX0_countersInAll_4 rfl (lv_at hl 0 rfl) ?_
  refine lv_bipush (v := 12) hx hb dX0_countersInAll_5 (by decide) ?_
  refine lv_icmp_ge (tgt := 25) hx hb dX0_countersInAll_7 (by decide) (fun c9 => absurd c9 (by decide)) (fun _ => ?_)
  refine lv_iload_n hx hb dX0_countersInAll_10 rfl (lv_at hl 1 rfl) ?_
  refine lv_aload_n hx hb dX0_countersInAll_11 rfl (lv_at hl 2 rfl) ?_
  refine va_get (D := (dC, dI)) (ci := 0) (v := .ref xa32) (C := RX0) (T := TX0) (N := 10) hx hb hts hin0 hown hK hP 0 rfl rfl 3 (by decide) (hts (.fieldLink RX0 22 "PathProber$Condition" "counter" "[I") (List.mem_of_getElem? (i := 1) (by decide +kernel))) (fun _ h9 => h9) rfl dX0_countersInAll_12 ?_
  refine lv_iload_n hx hb dX0_countersInAll_15 rfl (lv_at hl 0 rfl) ?_
  refine va_iald hx hb hK hP 4 1 rfl rfl (vp_in_nI (n := 0) (by decide) (by decide)) dX0_countersInAll_16 ?_
  refine lv_topi (fun z1 e2 => ?_)
  obtain rfl : z1 = (0 : Int32) := e2
  refine lv_iadd hx hb dX0_countersInAll_17 ?_
  refine lv_topi (fun z3 e4 => ?_)
  obtain rfl : z3 = (0 : Int32) := e4.trans (by decide)
  refine lv_istore_n (lv' := [(1, .int 0), (2, .int 0), (0, .ref xa28)]) hx hb dX0_countersInAll_18 rfl hl (by decide) rfl (fun ls hl => ?_)
  refine lv_iinc (v := 1) (lv' := [(2, .int 1), (1, .int 0), (0, .ref xa28)]) hx hb dX0_countersInAll_19 hl (k := 1) rfl (by decide) (by decide) rfl (fun ls hl => ?_)
  refine lv_goto (tgt := 4) hx hb dX0_countersInAll_22 (by decide) ?_
  refine lv_iload_n hx hb dX0_countersInAll_4 rfl (lv_at hl 0 rfl) ?_
  refine lv_bipush (v := 12) hx hb dX0_countersInAll_5 (by decide) ?_
  refine lv_icmp_ge (tgt := 25) hx hb dX0_countersInAll_7 (by decide) (fun c9 => absurd c9 (by decide)) (fun _ => ?_)
  refine lv_iload_n hx hb dX0_countersInAll_10 rfl (lv_at hl 1 rfl) ?_
  refine lv_aload_n hx hb dX0_countersInAll_11 rfl (lv_at hl 2 rfl) ?_
  refine va_get (D := (dC, dI)) (ci := 0) (v := .ref xa32) (C := RX0) (T := TX0) (N := 10) hx hb hts hin0 hown hK hP 0 rfl rfl 3 (by decide) (hts (.fieldLink RX0 22 "PathProber$Condition" "counter" "[I") (List.mem_of_getElem? (i := 1) (by decide +kernel))) (fun _ h9 => h9) rfl dX0_countersInAll_12 ?_
  refine lv_iload_n hx hb dX0_countersInAll_15 rfl (lv_at hl 0 rfl) ?_
  refine va_iald hx hb hK hP 4 1 rfl rfl (vp_in_nI (n := 1) (by decide) (by decide)) dX0_countersInAll_16 ?_
  refine lv_topi (fun z5 e6 => ?_)
  obtain rfl : z5 = (0 : Int32) := e6
  refine lv_iadd hx hb dX0_countersInAll_17 ?_
  refine lv_topi (fun z7 e8 => ?_)
  obtain rfl : z7 = (0 : Int32) := e8.trans (by decide)
  refine lv_istore_n (lv' := [(1, .int 0), (2, .int 1), (0, .ref xa28)]) hx hb dX0_countersInAll_18 rfl hl (by decide) rfl (fun ls hl => ?_)
  refine lv_iinc (v := 2) (lv' := [(2, .int 2), (1, .int 0), (0, .ref xa28)]) hx hb dX0_countersInAll_19 hl (k := 1) rfl (by decide) (by decide) rfl (fun ls hl => ?_)
  refine lv_goto (tgt := 4) hx hb dX0_countersInAll_22 (by decide) ?_
  refine lv_iload_n hx hb dX0_countersInAll_4 rfl (lv_at hl 0 rfl) ?_
  refine lv_bipush (v := 12) hx hb dX0_countersInAll_5 (by decide) ?_
  refine lv_icmp_ge (tgt := 25) hx hb dX0_countersInAll_7 (by decide) (fun c9 => absurd c9 (by decide)) (fun _ => ?_)
  refine lv_iload_n hx hb dX0_countersInAll_10 rfl (lv_at hl 1 rfl) ?_
  refine lv_aload_n hx hb dX0_countersInAll_11 rfl (lv_at hl 2 rfl) ?_
  refine va_get (D := (dC, dI)) (ci := 0) (v := .ref xa32) (C := RX0) (T := TX0) (N := 10) hx hb hts hin0 hown hK hP 0 rfl rfl 3 (by decide) (hts (.fieldLink RX0 22 "PathProber$Condition" "counter" "[I") (List.mem_of_getElem? (i := 1) (by decide +kernel))) (fun _ h9 => h9) rfl dX0_countersInAll_12 ?_
  refine lv_iload_n hx hb dX0_countersInAll_15 rfl (lv_at hl 0 rfl) ?_
  refine va_iald hx hb hK hP 4 1 rfl rfl (vp_in_nI (n := 2) (by decide) (by decide)) dX0_countersInAll_16 ?_
  refine lv_topi (fun z9 e10 => ?_)
  obtain rfl : z9 = (0 : Int32) := e10
  refine lv_iadd hx hb dX0_countersInAll_17 ?_
  refine lv_topi (fun z11 e12 => ?_)
  obtain rfl : z11 = (0 : Int32) := e12.trans (by decide)
  refine lv_istore_n (lv' := [(1, .int 0), (2, .int 2), (0, .ref xa28)]) hx hb dX0_countersInAll_18 rfl hl (by decide) rfl (fun ls hl => ?_)
  refine lv_iinc (v := 3) (lv' := [(2, .int 3), (1, .int 0), (0, .ref xa28)]) hx hb dX0_countersInAll_19 hl (k := 1) rfl (by decide) (by decide) rfl (fun ls hl => ?_)
  refine lv_goto (tgt := 4) hx hb dX0_countersInAll_22 (by decide) ?_
  refine lv_iload_n hx hb dX0_countersInAll_4 rfl (lv_at hl 0 rfl) ?_
  refine lv_bipush (v := 12) hx hb dX0_countersInAll_5 (by decide) ?_
  refine lv_icmp_ge (tgt := 25) hx hb dX0_countersInAll_7 (by decide) (fun c9 => absurd c9 (by decide)) (fun _ => ?_)
  refine lv_iload_n hx hb dX0_countersInAll_10 rfl (lv_at hl 1 rfl) ?_
  refine lv_aload_n hx hb dX0_countersInAll_11 rfl (lv_at hl 2 rfl) ?_
  refine va_get (D := (dC, dI)) (ci := 0) (v := .ref xa32) (C := RX0) (T := TX0) (N := 10) hx hb hts hin0 hown hK hP 0 rfl rfl 3 (by decide) (hts (.fieldLink RX0 22 "PathProber$Condition" "counter" "[I") (List.mem_of_getElem? (i := 1) (by decide +kernel))) (fun _ h9 => h9) rfl dX0_countersInAll_12 ?_
  refine lv_iload_n hx hb dX0_countersInAll_15 rfl (lv_at hl 0 rfl) ?_
  refine va_iald hx hb hK hP 4 1 rfl rfl (vp_in_nI (n := 3) (by decide) (by decide)) dX0_countersInAll_16 ?_
  refine lv_topi (fun z13 e14 => ?_)
  obtain rfl : z13 = (0 : Int32) := e14
  refine lv_iadd hx hb dX0_countersInAll_17 ?_
  refine lv_topi (fun z15 e16 => ?_)
  obtain rfl : z15 = (0 : Int32) := e16.trans (by decide)
  refine lv_istore_n (lv' := [(1, .int 0), (2, .int 3), (0, .ref xa28)]) hx hb dX0_countersInAll_18 rfl hl (by decide) rfl (fun ls hl => ?_)
  refine lv_iinc (v := 4) (lv' := [(2, .int 4), (1, .int 0), (0, .ref xa28)]) hx hb dX0_countersInAll_19 hl (k := 1) rfl (by decide) (by decide) rfl (fun ls hl => ?_)
  refine lv_goto (tgt := 4) hx hb dX0_countersInAll_22 (by decide) ?_
  refine lv_iload_n hx hb dX0_countersInAll_4 rfl (lv_at hl 0 rfl) ?_
  refine lv_bipush (v := 12) hx hb dX0_countersInAll_5 (by decide) ?_
  refine lv_icmp_ge (tgt := 25) hx hb dX0_countersInAll_7 (by decide) (fun c9 => absurd c9 (by decide)) (fun _ => ?_)
  refine lv_iload_n hx hb dX0_countersInAll_10 rfl (lv_at hl 1 rfl) ?_
  refine lv_aload_n hx hb dX0_countersInAll_11 rfl (lv_at hl 2 rfl) ?_
  refine va_get (D := (dC, dI)) (ci := 0) (v := .ref xa32) (C := RX0) (T := TX0) (N := 10) hx hb hts hin0 hown hK hP 0 rfl rfl 3 (by decide) (hts (.fieldLink RX0 22 "PathProber$Condition" "counter" "[I") (List.mem_of_getElem? (i := 1) (by decide +kernel))) (fun _ h9 => h9) rfl dX0_countersInAll_12 ?_
  refine lv_iload_n hx hb dX0_countersInAll_15 rfl (lv_at hl 0 rfl) ?_
  refine va_iald hx hb hK hP 4 1 rfl rfl (vp_in_nI (n := 4) (by decide) (by decide)) dX0_countersInAll_16 ?_
  refine lv_topi (fun z17 e18 => ?_)
  obtain rfl : z17 = (0 : Int32) := e18
  refine lv_iadd hx hb dX0_countersInAll_17 ?_
  refine lv_topi (fun z19 e20 => ?_)
  obtain rfl : z19 = (0 : Int32) := e20.trans (by decide)
  refine lv_istore_n (lv' := [(1, .int 0), (2, .int 4), (0, .ref xa28)]) hx hb dX0_countersInAll_18 rfl hl (by decide) rfl (fun ls hl => ?_)
  refine lv_iinc (v := 5) (lv' := [(2, .int 5), (1, .int 0), (0, .ref xa28)]) hx hb dX0_countersInAll_19 hl (k := 1) rfl (by decide) (by decide) rfl (fun ls hl => ?_)
  refine lv_goto (tgt := 4) hx hb dX0_countersInAll_22 (by decide) ?_
  refine lv_iload_n hx hb dX0_countersInAll_4 rfl (lv_at hl 0 rfl) ?_
  refine lv_bipush (v := 12) hx hb dX0_countersInAll_5 (by decide) ?_
  refine lv_icmp_ge (tgt := 25) hx hb dX0_countersInAll_7 (by decide) (fun c9 => absurd c9 (by decide)) (fun _ => ?_)
  refine lv_iload_n hx hb dX0_countersInAll_10 rfl (lv_at hl 1 rfl) ?_
  refine lv_aload_n hx hb dX0_countersInAll_11 rfl (lv_at hl 2 rfl) ?_
  refine va_get (D := (dC, dI)) (ci := 0) (v := .ref xa32) (C := RX0) (T := TX0) (N := 10) hx hb hts hin0 hown hK hP 0 rfl rfl 3 (by decide) (hts (.fieldLink RX0 22 "PathProber$Condition" "counter" "[I") (List.mem_of_getElem? (i := 1) (by decide +kernel))) (fun _ h9 => h9) rfl dX0_countersInAll_12 ?_
  refine lv_iload_n hx hb dX0_countersInAll_15 rfl (lv_at hl 0 rfl) ?_
  refine va_iald hx hb hK hP 4 1 rfl rfl (vp_in_nI (n := 5) (by decide) (by decide)) dX0_countersInAll_16 ?_
  refine lv_topi (fun z21 e22 => ?_)
  obtain rfl : z21 = (0 : Int32) := e22
  refine lv_iadd hx hb dX0_countersInAll_17 ?_
  refine lv_topi (fun z23 e24 => ?_)
  obtain rfl : z23 = (0 : Int32) := e24.trans (by decide)
  refine lv_istore_n (lv' := [(1, .int 0), (2, .int 5), (0, .ref xa28)]) hx hb dX0_countersInAll_18 rfl hl (by decide) rfl (fun ls hl => ?_)
  refine lv_iinc (v := 6) (lv' := [(2, .int 6), (1, .int 0), (0, .ref xa28)]) hx hb dX0_countersInAll_19 hl (k := 1) rfl (by decide) (by decide) rfl (fun ls hl => ?_)
  refine lv_goto (tgt := 4) hx hb dX0_countersInAll_22 (by decide) ?_
  refine lv_iload_n hx hb dX0_countersInAll_4 rfl (lv_at hl 0 rfl) ?_
  refine lv_bipush (v := 12) hx hb dX0_countersInAll_5 (by decide) ?_
  refine lv_icmp_ge (tgt := 25) hx hb dX0_countersInAll_7 (by decide) (fun c9 => absurd c9 (by decide)) (fun _ => ?_)
  refine lv_iload_n hx hb dX0_countersInAll_10 rfl (lv_at hl 1 rfl) ?_
  refine lv_aload_n hx hb dX0_countersInAll_11 rfl (lv_at hl 2 rfl) ?_
  refine va_get (D := (dC, dI)) (ci := 0) (v := .ref xa32) (C := RX0) (T := TX0) (N := 10) hx hb hts hin0 hown hK hP 0 rfl rfl 3 (by decide) (hts (.fieldLink RX0 22 "PathProber$Condition" "counter" "[I") (List.mem_of_getElem? (i := 1) (by decide +kernel))) (fun _ h9 => h9) rfl dX0_countersInAll_12 ?_
  refine lv_iload_n hx hb dX0_countersInAll_15 rfl (lv_at hl 0 rfl) ?_
  refine va_iald hx hb hK hP 4 1 rfl rfl (vp_in_nI (n := 6) (by decide) (by decide)) dX0_countersInAll_16 ?_
  refine lv_topi (fun z25 e26 => ?_)
  obtain rfl : z25 = (0 : Int32) := e26
  refine lv_iadd hx hb dX0_countersInAll_17 ?_
  refine lv_topi (fun z27 e28 => ?_)
  obtain rfl : z27 = (0 : Int32) := e28.trans (by decide)
  refine lv_istore_n (lv' := [(1, .int 0), (2, .int 6), (0, .ref xa28)]) hx hb dX0_countersInAll_18 rfl hl (by decide) rfl (fun ls hl => ?_)
  refine lv_iinc (v := 7) (lv' := [(2, .int 7), (1, .int 0), (0, .ref xa28)]) hx hb dX0_countersInAll_19 hl (k := 1) rfl (by decide) (by decide) rfl (fun ls hl => ?_)
  refine lv_goto (tgt := 4) hx hb dX0_countersInAll_22 (by decide) ?_
  refine lv_iload_n hx hb dX0_countersInAll_4 rfl (lv_at hl 0 rfl) ?_
  refine lv_bipush (v := 12) hx hb dX0_countersInAll_5 (by decide) ?_
  refine lv_icmp_ge (tgt := 25) hx hb dX0_countersInAll_7 (by decide) (fun c9 => absurd c9 (by decide)) (fun _ => ?_)
  refine lv_iload_n hx hb dX0_countersInAll_10 rfl (lv_at hl 1 rfl) ?_
  refine lv_aload_n hx hb dX0_countersInAll_11 rfl (lv_at hl 2 rfl) ?_
  refine va_get (D := (dC, dI)) (ci := 0) (v := .ref xa32) (C := RX0) (T := TX0) (N := 10) hx hb hts hin0 hown hK hP 0 rfl rfl 3 (by decide) (hts (.fieldLink RX0 22 "PathProber$Condition" "counter" "[I") (List.mem_of_getElem? (i := 1) (by decide +kernel))) (fun _ h9 => h9) rfl dX0_countersInAll_12 ?_
  refine lv_iload_n hx hb dX0_countersInAll_15 rfl (lv_at hl 0 rfl) ?_
  refine va_iald hx hb hK hP 4 1 rfl rfl (vp_in_nI (n := 7) (by decide) (by decide)) dX0_countersInAll_16 ?_
  refine lv_topi (fun z29 e30 => ?_)
  obtain rfl : z29 = (0 : Int32) := e30
  refine lv_iadd hx hb dX0_countersInAll_17 ?_
  refine lv_topi (fun z31 e32 => ?_)
  obtain rfl : z31 = (0 : Int32) := e32.trans (by decide)
  refine lv_istore_n (lv' := [(1, .int 0), (2, .int 7), (0, .ref xa28)]) hx hb dX0_countersInAll_18 rfl hl (by decide) rfl (fun ls hl => ?_)
  refine lv_iinc (v := 8) (lv' := [(2, .int 8), (1, .int 0), (0, .ref xa28)]) hx hb dX0_countersInAll_19 hl (k := 1) rfl (by decide) (by decide) rfl (fun ls hl => ?_)
  refine lv_goto (tgt := 4) hx hb dX0_countersInAll_22 (by decide) ?_
  refine lv_iload_n hx hb dX0_countersInAll_4 rfl (lv_at hl 0 rfl) ?_
  refine lv_bipush (v := 12) hx hb dX0_countersInAll_5 (by decide) ?_
  refine lv_icmp_ge (tgt := 25) hx hb dX0_countersInAll_7 (by decide) (fun c9 => absurd c9 (by decide)) (fun _ => ?_)
  refine lv_iload_n hx hb dX0_countersInAll_10 rfl (lv_at hl 1 rfl) ?_
  refine lv_aload_n hx hb dX0_countersInAll_11 rfl (lv_at hl 2 rfl) ?_
  refine va_get (D := (dC, dI)) (ci := 0) (v := .ref xa32) (C := RX0) (T := TX0) (N := 10) hx hb hts hin0 hown hK hP 0 rfl rfl 3 (by decide) (hts (.fieldLink RX0 22 "PathProber$Condition" "counter" "[I") (List.mem_of_getElem? (i := 1) (by decide +kernel))) (fun _ h9 => h9) rfl dX0_countersInAll_12 ?_
  refine lv_iload_n hx hb dX0_countersInAll_15 rfl (lv_at hl 0 rfl) ?_
  refine va_iald hx hb hK hP 4 1 rfl rfl (vp_in_nI (n := 8) (by decide) (by decide)) dX0_countersInAll_16 ?_
  refine lv_topi (fun z33 e34 => ?_)
  obtain rfl : z33 = (0 : Int32) := e34
  refine lv_iadd hx hb dX0_countersInAll_17 ?_
  refine lv_topi (fun z35 e36 => ?_)
  obtain rfl : z35 = (0 : Int32) := e36.trans (by decide)
  refine lv_istore_n (lv' := [(1, .int 0), (2, .int 8), (0, .ref xa28)]) hx hb dX0_countersInAll_18 rfl hl (by decide) rfl (fun ls hl => ?_)
  refine lv_iinc (v := 9) (lv' := [(2, .int 9), (1, .int 0), (0, .ref xa28)]) hx hb dX0_countersInAll_19 hl (k := 1) rfl (by decide) (by decide) rfl (fun ls hl => ?_)
  refine lv_goto (tgt := 4) hx hb dX0_countersInAll_22 (by decide) ?_
  refine lv_iload_n hx hb dX0_countersInAll_4 rfl (lv_at hl 0 rfl) ?_
  refine lv_bipush (v := 12) hx hb dX0_countersInAll_5 (by decide) ?_
  refine lv_icmp_ge (tgt := 25) hx hb dX0_countersInAll_7 (by decide) (fun c9 => absurd c9 (by decide)) (fun _ => ?_)
  refine lv_iload_n hx hb dX0_countersInAll_10 rfl (lv_at hl 1 rfl) ?_
  refine lv_aload_n hx hb dX0_countersInAll_11 rfl (lv_at hl 2 rfl) ?_
  refine va_get (D := (dC, dI)) (ci := 0) (v := .ref xa32) (C := RX0) (T := TX0) (N := 10) hx hb hts hin0 hown hK hP 0 rfl rfl 3 (by decide) (hts (.fieldLink RX0 22 "PathProber$Condition" "counter" "[I") (List.mem_of_getElem? (i := 1) (by decide +kernel))) (fun _ h9 => h9) rfl dX0_countersInAll_12 ?_
  refine lv_iload_n hx hb dX0_countersInAll_15 rfl (lv_at hl 0 rfl) ?_
  refine va_iald hx hb hK hP 4 1 rfl rfl (vp_in_nI (n := 9) (by decide) (by decide)) dX0_countersInAll_16 ?_
  refine lv_topi (fun z37 e38 => ?_)
  obtain rfl : z37 = (0 : Int32) := e38
  refine lv_iadd hx hb dX0_countersInAll_17 ?_
  refine lv_topi (fun z39 e40 => ?_)
  obtain rfl : z39 = (0 : Int32) := e40.trans (by decide)
  refine lv_istore_n (lv' := [(1, .int 0), (2, .int 9), (0, .ref xa28)]) hx hb dX0_countersInAll_18 rfl hl (by decide) rfl (fun ls hl => ?_)
  refine lv_iinc (v := 10) (lv' := [(2, .int 10), (1, .int 0), (0, .ref xa28)]) hx hb dX0_countersInAll_19 hl (k := 1) rfl (by decide) (by decide) rfl (fun ls hl => ?_)
  refine lv_goto (tgt := 4) hx hb dX0_countersInAll_22 (by decide) ?_
  refine lv_iload_n hx hb dX0_countersInAll_4 rfl (lv_at hl 0 rfl) ?_
  refine lv_bipush (v := 12) hx hb dX0_countersInAll_5 (by decide) ?_
  refine lv_icmp_ge (tgt := 25) hx hb dX0_countersInAll_7 (by decide) (fun c9 => absurd c9 (by decide)) (fun _ => ?_)
  refine lv_iload_n hx hb dX0_countersInAll_10 rfl (lv_at hl 1 rfl) ?_
  refine lv_aload_n hx hb dX0_countersInAll_11 rfl (lv_at hl 2 rfl) ?_
  refine va_get (D := (dC, dI)) (ci := 0) (v := .ref xa32) (C := RX0) (T := TX0) (N := 10) hx hb hts hin0 hown hK hP 0 rfl rfl 3 (by decide) (hts (.fieldLink RX0 22 "PathProber$Condition" "counter" "[I") (List.mem_of_getElem? (i := 1) (by decide +kernel))) (fun _ h9 => h9) rfl dX0_countersInAll_12 ?_
  refine lv_iload_n hx hb dX0_countersInAll_15 rfl (lv_at hl 0 rfl) ?_
  refine va_iald hx hb hK hP 4 1 rfl rfl (vp_in_nI (n := 10) (by decide) (by decide)) dX0_countersInAll_16 ?_
  refine lv_topi (fun z41 e42 => ?_)
  obtain rfl : z41 = (0 : Int32) := e42
  refine lv_iadd hx hb dX0_countersInAll_17 ?_
  refine lv_topi (fun z43 e44 => ?_)
  obtain rfl : z43 = (0 : Int32) := e44.trans (by decide)
  refine lv_istore_n (lv' := [(1, .int 0), (2, .int 10), (0, .ref xa28)]) hx hb dX0_countersInAll_18 rfl hl (by decide) rfl (fun ls hl => ?_)
  refine lv_iinc (v := 11) (lv' := [(2, .int 11), (1, .int 0), (0, .ref xa28)]) hx hb dX0_countersInAll_19 hl (k := 1) rfl (by decide) (by decide) rfl (fun ls hl => ?_)
  refine lv_goto (tgt := 4) hx hb dX0_countersInAll_22 (by decide) ?_
  refine lv_iload_n hx hb dX0_countersInAll_4 rfl (lv_at hl 0 rfl) ?_
  refine lv_bipush (v := 12) hx hb dX0_countersInAll_5 (by decide) ?_
  refine lv_icmp_ge (tgt := 25) hx hb dX0_countersInAll_7 (by decide) (fun c9 => absurd c9 (by decide)) (fun _ => ?_)
  refine lv_iload_n hx hb dX0_countersInAll_10 rfl (lv_at hl 1 rfl) ?_
  refine lv_aload_n hx hb dX0_countersInAll_11 rfl (lv_at hl 2 rfl) ?_
  refine va_get (D := (dC, dI)) (ci := 0) (v := .ref xa32) (C := RX0) (T := TX0) (N := 10) hx hb hts hin0 hown hK hP 0 rfl rfl 3 (by decide) (hts (.fieldLink RX0 22 "PathProber$Condition" "counter" "[I") (List.mem_of_getElem? (i := 1) (by decide +kernel))) (fun _ h9 => h9) rfl dX0_countersInAll_12 ?_
  refine lv_iload_n hx hb dX0_countersInAll_15 rfl (lv_at hl 0 rfl) ?_
  refine va_iald hx hb hK hP 4 1 rfl rfl (vp_in_nI (n := 11) (by decide) (by decide)) dX0_countersInAll_16 ?_
  refine lv_topi (fun z45 e46 => ?_)
  obtain rfl : z45 = (0 : Int32) := e46
  refine lv_iadd hx hb dX0_countersInAll_17 ?_
  refine lv_topi (fun z47 e48 => ?_)
  obtain rfl : z47 = (0 : Int32) := e48.trans (by decide)
  refine lv_istore_n (lv' := [(1, .int 0), (2, .int 11), (0, .ref xa28)]) hx hb dX0_countersInAll_18 rfl hl (by decide) rfl (fun ls hl => ?_)
  refine lv_iinc (v := 12) (lv' := [(2, .int 12), (1, .int 0), (0, .ref xa28)]) hx hb dX0_countersInAll_19 hl (k := 1) rfl (by decide) (by decide) rfl (fun ls hl => ?_)
  refine lv_goto (tgt := 4) hx hb dX0_countersInAll_22 (by decide) ?_
  refine lv_iload_n hx hb dX0_countersInAll_4 rfl (lv_at hl 0 rfl) ?_
  refine lv_bipush (v := 12) hx hb dX0_countersInAll_5 (by decide) ?_
  refine lv_icmp_ge (tgt := 25) hx hb dX0_countersInAll_7 (by decide) (fun _ => ?_) (fun c9 => absurd (by decide) c9)
  refine lv_iload_n hx hb dX0_countersInAll_25 rfl (lv_at hl 1 rfl) ?_
  have hP9 := hP.sub (ws' := [(xa28, .inr (0, [.ref xa29, .ref xa30, .ref xa31, .ref xa32, .int u0, .int u1, .int u2, .int u3, .int u4, .int u5])), (xa29, .inl (kJ, 96, .inr (.inl f1))), (xa30, .inl (kI, 30, .inl f2)), (xa31, .inl (kI, 12, .inl f3)), (xa32, .inl (kI, 12, .inl (fun _ => 0)))]) [0, 1, 2, 3, 4] rfl
  have hD9 := hD.sub (ws' := [(xa28, .inr (0, [.ref xa29, .ref xa30, .ref xa31, .ref xa32, .int u0, .int u1, .int u2, .int u3, .int u4, .int u5])), (xa29, .inl (kJ, 96, .inr (.inl f1))), (xa30, .inl (kI, 30, .inl f2)), (xa31, .inl (kI, 12, .inl f3)), (xa32, .inl (kI, 12, .inl (fun _ => 0)))]) [0, 1, 2, 3, 4] (by decide) rfl
  exact W.iret (v := 0) hx hb hr (fun t ht hW => ⟨⟨0, (), rfl, rfl, by rw [ht]; exact hP9, hD9⟩, hS.F ht⟩) hS.2.2 dX0_countersInAll_26
def rm_k1_rowOf : Room := { frames := 2, cells := 5, slots := 160, locals := 32 }
set_option maxHeartbeats 4000000 in
set_option maxRecDepth 100000 in
theorem k1_rowOf (l : Launch) (dC : Nat → ClassId) (dI : Nat → Nat → Nat) (kB kI kJ kZ kC kS : ClassId) (sz : Nat) (xa52 : Nat) (xa53 : Nat) : Met l yX1_rowOf wsX1_rowOf rm_k1_rowOf (va_Pc [.ref xa52, .int 0] (fun U => U.heap.size = sz ∧ va_P (dC, dI) vwCl [(xa52, .inr (1, [.ref xa53, .int 0, .int 0])), (xa53, .inl (kC, 40, .inr (.inr (.inr (.inr (fun _ => none))))))] U.heap ∧ kE dC dI kB kI kJ kZ kC kS U ∧ va_D (fun _ => True) [(xa52, .inr (1, [.ref xa53, .int 0, .int 0])), (xa53, .inl (kC, 40, .inr (.inr (.inr (.inr (fun _ => none))))))])) (va_Qr (fun (_ : Unit) => True) (fun _ ra t => ∃ (w1 : Nat) (w2 : Nat) (w3 : Nat) (w4 : Nat) (g1 : Nat → Option Nat), va_P (dC, dI) vwCl [(xa52, .inr (1, [.ref xa53, .int 0, .int 0])), (xa53, .inl (kC, 40, .inr (.inr (.inr (.inr g1))))), (ra, .inr (0, [.ref w1, .ref w2, .ref w3, .ref w4, .int 5, .int 0, .int 0, .int 0, .int 0, .int 0])), (w1, .inl (kJ, 96, .inr (.inl (fun _ => 0)))), (w2, .inl (kI, 30, .inl (fun _ => 0))), (w3, .inl (kI, 12, .inl (fun _ => 0))), (w4, .inl (kI, 12, .inl (fun _ => 0)))] t.heap ∧ va_D (va_A [(xa52, .inr (1, [.ref xa53, .int 0, .int 0])), (xa53, .inl (kC, 40, .inr (.inr (.inr (.inr (fun _ => none))))))] sz) [(xa52, .inr (1, [.ref xa53, .int 0, .int 0])), (xa53, .inl (kC, 40, .inr (.inr (.inr (.inr g1))))), (ra, .inr (0, [.ref w1, .ref w2, .ref w3, .ref w4, .int 5, .int 0, .int 0, .int 0, .int 0, .int 0])), (w1, .inl (kJ, 96, .inr (.inl (fun _ => 0)))), (w2, .inl (kI, 30, .inl (fun _ => 0))), (w3, .inl (kI, 12, .inl (fun _ => 0))), (w4, .inl (kI, 12, .inl (fun _ => 0)))]) (va_A [(xa52, .inr (1, [.ref xa53, .int 0, .int 0])), (xa53, .inl (kC, 40, .inr (.inr (.inr (.inr (fun _ => none))))))] sz)) 5 160 (va_A [(xa52, .inr (1, [.ref xa53, .int 0, .int 0])), (xa53, .inl (kC, 40, .inr (.inr (.inr (.inr (fun _ => none))))))] sz) := by
  refine Met.ofW (cc := cX1_rowOf) (maxL := 4) (ret := (some (.object "PathProber$Condition"))) (by decide) rfl ?_
  intro p e s m args0 below meth c s₁ B hml hv
  obtain ⟨hargs, hsz, hP, hE, hD0⟩ := hv
  have hx := B.exec
  have hb := B.bytes
  have hr := B.returns
  have hts := atoms_spec (ws := wsX1_rowOf) B.pre
  have hown : s.vm.findClass RX1 = some m.cls := findClass_of_methodNamed B.named
  have hlocks := B.notSynchronized
  have hK := hE.1
  have hin1 : ∀ w ∈ wsX10, w ∈ wsX1_rowOf := fun _ h9 => List.mem_cons_of_mem _ (List.mem_append_left _ (List.mem_append_right _ h9))
  have hin0 : ∀ w ∈ wsX00, w ∈ wsX1_rowOf := fun _ h9 => List.mem_cons_of_mem _ (List.mem_append_right _ h9)
  subst hsz
  have hD := hD0.self (sz := s.heap.size)
  generalize hAe : va_A [(xa52, .inr (1, [.ref xa53, .int 0, .int 0])), (xa53, .inl (kC, 40, .inr (.inr (.inr (.inr (fun _ => none))))))] s.heap.size = A at hD ⊢
  have hA : ∀ q : Nat, s.heap.size ≤ q → A q := fun q h => by rw [← hAe]; exact Or.inr h
  have hS : va_S A s.heap s.heap [] := va_S.rf
  have hP : va_P (dC, dI) vwCl [(xa52, .inr (1, [.ref xa53, .int 0, .int 0])), (xa53, .inl (kC, 40, .inr (.inr (.inr (.inr (fun _ => none))))))] s.heap := hP
  have hl := lv_entry ([.ref xa52, .int 0]) (n := 4) (Nat.le_of_ble_eq_true rfl)
  have hla : entryFrame m args0 4 = entryFrame m ([.ref xa52, .int 0] : List Value).toArray 4 := by rw [hargs]
  rw [hla, lg_entry_eq]
  generalize (lg_sl ([.ref xa52, .int 0]) ++ List.replicate (4 - (lg_sl ([.ref xa52, .int 0])).length) Slot.unset).toArray = ls at hl ⊢
  have hl : lv_has ls 4 [(0, .ref xa52), (1, .int 0)] := hl
  refine lv_aload_n hx hb dX1_rowOf_0 rfl (lv_at hl 0 rfl) ?_
  refine va_get (D := (dC, dI)) (ci := 1) (v := .int 0) (C := RX1) (T := TX1) (N := 3) hx hb hts hin1 hown hK hP 0 rfl rfl 1 (by decide) (hts (.fieldLink RX1 17 "PathProber$History" "oldest" "I") (List.mem_of_getElem? (i := 1) (by decide +kernel))) (fun _ h9 => h9) rfl dX1_rowOf_1 ?_
  refine lv_iload_n hx hb dX1_rowOf_4 rfl (lv_at hl 1 rfl) ?_
  refine lv_iadd hx hb dX1_rowOf_5 ?_
  refine lv_topi (fun z1 e2 => ?_)
  obtain rfl : z1 = (0 : Int32) := e2.trans (by decide)
  refine lv_bipush (v := 40) hx hb dX1_rowOf_6 (by decide) ?_
  refine lv_irem hx hb dX1_rowOf_8 (by decide) ?_
  refine lv_topi (fun z3 e4 => ?_)
  obtain rfl : z3 = (0 : Int32) := e4.trans (by decide)
  refine lv_istore_n (lv' := [(2, .int 0), (0, .ref xa52), (1, .int 0)]) hx hb dX1_rowOf_9 rfl hl (by decide) rfl (fun ls hl => ?_)
  refine lv_aload_n hx hb dX1_rowOf_10 rfl (lv_at hl 1 rfl) ?_
  refine va_get (D := (dC, dI)) (ci := 1) (v := .ref xa53) (C := RX1) (T := TX1) (N := 3) hx hb hts hin1 hown hK hP 0 rfl rfl 0 (by decide) (hts (.fieldLink RX1 11 "PathProber$History" "ahead" "[LPathProber$Condition;") (List.mem_of_getElem? (i := 2) (by decide +kernel))) (fun _ h9 => h9) rfl dX1_rowOf_11 ?_
  refine lv_iload_n hx hb dX1_rowOf_14 rfl (lv_at hl 0 rfl) ?_
  refine va_aldq hx hb hK hP 1 4 rfl rfl (vp_in_nI (n := 0) (by decide) (by decide)) dX1_rowOf_15 ?_
  refine W.eq (g2 := F0 m 16 ls [.null]) rfl ?_
  refine lv_astore_nN (lv' := [(3, .null), (2, .int 0), (0, .ref xa52), (1, .int 0)]) hx hb dX1_rowOf_16 rfl hl (by decide) rfl (fun ls hl => ?_)
  refine lv_aload_nN hx hb dX1_rowOf_17 rfl (lv_at hl 0 rfl) ?_
  refine lv_ifnonnullN hx hb dX1_rowOf_18 ?_
  refine va_new (ci := 0) (fs := [.null, .null, .null, .null, .int 0, .int 0, .int 0, .int 0, .int 0, .int 0]) (C := RX0) (T := TX0) (N := 10) hx hb hts hin0 tyX0 tyX0_ok hown (hts (.classLink RX1 9 RX0) (List.mem_of_getElem? (i := 3) (by decide +kernel))) (hts (.instantiable RX0 10) (List.mem_of_getElem? (i := 4) (by decide +kernel))) (hts (.initialized RX0) (List.mem_of_getElem? (i := 5) (by decide +kernel))) hK hP hD hS hA rfl (fun j hj => by rcases (show j = 0 ∨ j = 1 ∨ j = 2 ∨ j = 3 ∨ j = 4 ∨ j = 5 ∨ j = 6 ∨ j = 7 ∨ j = 8 ∨ j = 9 by omega) with rfl | rfl | rfl | rfl | rfl | rfl | rfl | rfl | rfl | rfl <;> rfl) (Nat.le_of_ble_eq_true rfl) (Nat.le_of_ble_eq_true rfl) dX1_rowOf_21 (fun q5 H hP hD hS => ?_)
  have hP : va_P (dC, dI) vwCl [(xa52, .inr (1, [.ref xa53, .int 0, .int 0])), (xa53, .inl (kC, 40, .inr (.inr (.inr (.inr (fun _ => none)))))), (q5, .inr (0, [.null, .null, .null, .null, .int 0, .int 0, .int 0, .int 0, .int 0, .int 0]))] H := hP
  have hD : va_D A [(xa52, .inr (1, [.ref xa53, .int 0, .int 0])), (xa53, .inl (kC, 40, .inr (.inr (.inr (.inr (fun _ => none)))))), (q5, .inr (0, [.null, .null, .null, .null, .int 0, .int 0, .int 0, .int 0, .int 0, .int 0]))] := hD
  refine W.widen (k := 1) (n := 10) (Nat.le_of_ble_eq_true rfl) (Nat.le_of_ble_eq_true rfl) ?_
  refine lv_dup hx hb dX1_rowOf_24 rfl ?_
  have hPc := hP.sub (ws' := [(q5, .inr (0, [.null, .null, .null, .null, .int 0, .int 0, .int 0, .int 0, .int 0, .int 0]))]) [2] rfl
  have hDc := hD.sub (ws' := [(q5, .inr (0, [.null, .null, .null, .null, .int 0, .int 0, .int 0, .int 0, .int 0, .int 0]))]) [2] (by decide) rfl
  have hFc := va_free (wc := [(q5, .inr (0, [.null, .null, .null, .null, .int 0, .int 0, .int 0, .int 0, .int 0, .int 0]))]) hD hS hA [2] rfl
  refine va_callv (va_runIN (As := []) (rest := [.ref q5]) ⟨hx, hb, hml, hown, hts⟩ (k0_init l dC dI kB kI kJ kZ kC kS H.size q5) ⟨va_cnB 0 hts gX1_rowOf_X0_init_n35 rfl rfl rfl hE.2.2.2.2.2.2.2.2 (hts (.initialized RX0) (List.mem_of_getElem? (i := 5) (by decide +kernel))) (by decide +kernel) ⟨Nat.le_of_ble_eq_true rfl, Nat.le_of_ble_eq_true rfl⟩, rfl, (hts (.instanceMethod yX0_init) (List.mem_of_getElem? (i := 6) (by decide +kernel)))⟩ ⟨fun a U g mk q => by obtain ⟨q0, q1, qP, qE, qD⟩ := q; exact ⟨q0, q1, qP, kE_call qE, qD⟩, fun U hU hW => ⟨rfl, by rw [hU], by rw [hU]; exact hPc, kE_warm hW hE, hDc.weaken (fun _ _ _ _ => trivial)⟩⟩ rfl rfl hl.1 rfl (lv_room (Nat.le_of_ble_eq_true rfl)) dX1_rowOf_25 ⟨Nat.le_of_ble_eq_true rfl, Nat.le_of_ble_eq_true rfl⟩) hS (fun q _ h => hFc q h) hFc (fun u t H1 locs ht hvm w7 hB hz1 hk1 hS => ?_)
  obtain ⟨q_8, q_9, q_10, q_11, hP1, hD1⟩ := hB
  rw [ht] at hP1
  try dsimp only at w7
  obtain ⟨hP, hD⟩ := va_join (wr := [(xa52, .inr (1, [.ref xa53, .int 0, .int 0])), (xa53, .inl (kC, 40, .inr (.inr (.inr (.inr (fun _ => none))))))]) (w1 := [(q5, .inr (0, [.ref q_8, .ref q_9, .ref q_10, .ref q_11, .int 5, .int 0, .int 0, .int 0, .int 0, .int 0])), (q_8, .inl (kJ, 96, .inr (.inl (fun _ => 0)))), (q_9, .inl (kI, 30, .inl (fun _ => 0))), (q_10, .inl (kI, 12, .inl (fun _ => 0))), (q_11, .inl (kI, 12, .inl (fun _ => 0)))]) hP hD [2] [0, 1] rfl rfl (by decide) (by decide) hk1 hFc hP1 hD1
  generalize H1 = H at hP hS ⊢
  have hP : va_P (dC, dI) vwCl [(xa52, .inr (1, [.ref xa53, .int 0, .int 0])), (xa53, .inl (kC, 40, .inr (.inr (.inr (.inr (fun _ => none)))))), (q5, .inr (0, [.ref q_8, .ref q_9, .ref q_10, .ref q_11, .int 5, .int 0, .int 0, .int 0, .int 0, .int 0])), (q_8, .inl (kJ, 96, .inr (.inl (fun _ => 0)))), (q_9, .inl (kI, 30, .inl (fun _ => 0))), (q_10, .inl (kI, 12, .inl (fun _ => 0))), (q_11, .inl (kI, 12, .inl (fun _ => 0)))] H := hP
  have hD : va_D A [(xa52, .inr (1, [.ref xa53, .int 0, .int 0])), (xa53, .inl (kC, 40, .inr (.inr (.inr (.inr (fun _ => none)))))), (q5, .inr (0, [.ref q_8, .ref q_9, .ref q_10, .ref q_11, .int 5, .int 0, .int 0, .int 0, .int 0, .int 0])), (q_8, .inl (kJ, 96, .inr (.inl (fun _ => 0)))), (q_9, .inl (kI, 30, .inl (fun _ => 0))), (q_10, .inl (kI, 12, .inl (fun _ => 0))), (q_11, .inl (kI, 12, .inl (fun _ => 0)))] := hD
  refine W.widen (k := 5) (n := 160) (Nat.le_of_ble_eq_true rfl) (Nat.le_of_ble_eq_true rfl) ?_
  refine lv_astore_n (lv' := [(3, .ref q5), (2, .int 0), (0, .ref xa52), (1, .int 0)]) hx hb dX1_rowOf_28 rfl hl (by decide) rfl (fun ls hl => ?_)
  refine lv_aload_n hx hb dX1_rowOf_29 rfl (lv_at hl 2 rfl) ?_
  refine va_get (D := (dC, dI)) (ci := 1) (v := .ref xa53) (C := RX1) (T := TX1) (N := 3) hx hb hts hin1 hown hK hP 0 rfl rfl 0 (by decide) (hts (.fieldLink RX1 11 "PathProber$History" "ahead" "[LPathProber$Condition;") (List.mem_of_getElem? (i := 2) (by decide +kernel))) (fun _ h9 => h9) rfl dX1_rowOf_30 ?_
  refine lv_iload_n hx hb dX1_rowOf_33 rfl (lv_at hl 1 rfl) ?_
  refine lv_aload_n hx hb dX1_rowOf_34 rfl (lv_at hl 0 rfl) ?_
  refine va_astq hx hb hK hP hD hS 1 4 2 0 rfl rfl rfl rfl (vp_in_nI (n := 0) (by decide) (by decide)) dX1_rowOf_35 (fun H locs hP hD hS => ?_)
  have hP : va_P (dC, dI) vwCl [(xa52, .inr (1, [.ref xa53, .int 0, .int 0])), (xa53, .inl (kC, 40, .inr (.inr (.inr (.inr (va_up (fun _ => none) 0 (some q5))))))), (q5, .inr (0, [.ref q_8, .ref q_9, .ref q_10, .ref q_11, .int 5, .int 0, .int 0, .int 0, .int 0, .int 0])), (q_8, .inl (kJ, 96, .inr (.inl (fun _ => 0)))), (q_9, .inl (kI, 30, .inl (fun _ => 0))), (q_10, .inl (kI, 12, .inl (fun _ => 0))), (q_11, .inl (kI, 12, .inl (fun _ => 0)))] H := hP
  have hD : va_D A [(xa52, .inr (1, [.ref xa53, .int 0, .int 0])), (xa53, .inl (kC, 40, .inr (.inr (.inr (.inr (va_up (fun _ => none) 0 (some q5))))))), (q5, .inr (0, [.ref q_8, .ref q_9, .ref q_10, .ref q_11, .int 5, .int 0, .int 0, .int 0, .int 0, .int 0])), (q_8, .inl (kJ, 96, .inr (.inl (fun _ => 0)))), (q_9, .inl (kI, 30, .inl (fun _ => 0))), (q_10, .inl (kI, 12, .inl (fun _ => 0))), (q_11, .inl (kI, 12, .inl (fun _ => 0)))] := hD
  refine lv_aload_n hx hb dX1_rowOf_36 rfl (lv_at hl 0 rfl) ?_
  have hP9 := hP.sub (ws' := [(xa52, .inr (1, [.ref xa53, .int 0, .int 0])), (xa53, .inl (kC, 40, .inr (.inr (.inr (.inr (va_up (fun _ => none) 0 (some q5))))))), (q5, .inr (0, [.ref q_8, .ref q_9, .ref q_10, .ref q_11, .int 5, .int 0, .int 0, .int 0, .int 0, .int 0])), (q_8, .inl (kJ, 96, .inr (.inl (fun _ => 0)))), (q_9, .inl (kI, 30, .inl (fun _ => 0))), (q_10, .inl (kI, 12, .inl (fun _ => 0))), (q_11, .inl (kI, 12, .inl (fun _ => 0)))]) [0, 1, 2, 3, 4, 5, 6] rfl
  have hD9 := hD.sub (ws' := [(xa52, .inr (1, [.ref xa53, .int 0, .int 0])), (xa53, .inl (kC, 40, .inr (.inr (.inr (.inr (va_up (fun _ => none) 0 (some q5))))))), (q5, .inr (0, [.ref q_8, .ref q_9, .ref q_10, .ref q_11, .int 5, .int 0, .int 0, .int 0, .int 0, .int 0])), (q_8, .inl (kJ, 96, .inr (.inl (fun _ => 0)))), (q_9, .inl (kI, 30, .inl (fun _ => 0))), (q_10, .inl (kI, 12, .inl (fun _ => 0))), (q_11, .inl (kI, 12, .inl (fun _ => 0)))]) [0, 1, 2, 3, 4, 5, 6] (by decide) rfl
  exact W.aret (v := .ref q5) hx hb hr (Or.inl ⟨_, rfl⟩) (Or.inr ⟨_, rfl⟩) (fun t ht hW => ⟨⟨(), q5, rfl, trivial, q_8, q_9, q_10, q_11, va_up (fun _ => none) 0 (some q5), by rw [ht]; exact hP9, hD9⟩, hS.F ht⟩) hS.2.2 dX1_rowOf_37
def rm_k1_keep : Room := { frames := 3, cells := 5, slots := 160, locals := 81 }
set_option maxHeartbeats 4000000 in
set_option maxRecDepth 100000 in
theorem k1_keep (l : Launch) (dC : Nat → ClassId) (dI : Nat → Nat → Nat) (kB kI kJ kZ kC kS : ClassId) (sz : Nat) (xa52 : Nat) (xa53 : Nat) (xa28 : Nat) (xa29 : Nat) (xa30 : Nat) (xa31 : Nat) (xa32 : Nat) : Met l yX1_keep wsX1_keep rm_k1_keep (va_Pc [.ref xa52, .ref xa28] (fun U => U.heap.size = sz ∧ va_P (dC, dI) vwCl [(xa52, .inr (1, [.ref xa53, .int 0, .int 0])), (xa53, .inl (kC, 40, .inr (.inr (.inr (.inr (fun _ => none)))))), (xa28, .inr (0, [.ref xa29, .ref xa30, .ref xa31, .ref xa32, .int 5, .int 0, .int 0, .int 0, .int 0, .int 0])), (xa29, .inl (kJ, 96, .inr (.inl (fun _ => 0)))), (xa30, .inl (kI, 30, .inl (fun _ => 0))), (xa31, .inl (kI, 12, .inl (fun _ => 0))), (xa32, .inl (kI, 12, .inl (fun _ => 0)))] U.heap ∧ kE dC dI kB kI kJ kZ kC kS U ∧ va_D (fun _ => True) [(xa52, .inr (1, [.ref xa53, .int 0, .int 0])), (xa53, .inl (kC, 40, .inr (.inr (.inr (.inr (fun _ => none)))))), (xa28, .inr (0, [.ref xa29, .ref xa30, .ref xa31, .ref xa32, .int 5, .int 0, .int 0, .int 0, .int 0, .int 0])), (xa29, .inl (kJ, 96, .inr (.inl (fun _ => 0)))), (xa30, .inl (kI, 30, .inl (fun _ => 0))), (xa31, .inl (kI, 12, .inl (fun _ => 0))), (xa32, .inl (kI, 12, .inl (fun _ => 0)))])) (va_Qv (fun (_ : Unit) => True) (fun _ t => ∃ (g1 : Nat → Option Nat), va_P (dC, dI) vwCl [(xa52, .inr (1, [.ref xa53, .int 0, .int 1])), (xa53, .inl (kC, 40, .inr (.inr (.inr (.inr g1))))), (xa28, .inr (0, [.ref xa29, .ref xa30, .ref xa31, .ref xa32, .int 5, .int 0, .int 0, .int 0, .int 0, .int 0])), (xa29, .inl (kJ, 96, .inr (.inl (fun _ => 0)))), (xa30, .inl (kI, 30, .inl (fun _ => 0))), (xa31, .inl (kI, 12, .inl (fun _ => 0))), (xa32, .inl (kI, 12, .inl (fun _ => 0)))] t.heap ∧ va_D (va_A [(xa52, .inr (1, [.ref xa53, .int 0, .int 0])), (xa53, .inl (kC, 40, .inr (.inr (.inr (.inr (fun _ => none)))))), (xa28, .inr (0, [.ref xa29, .ref xa30, .ref xa31, .ref xa32, .int 5, .int 0, .int 0, .int 0, .int 0, .int 0])), (xa29, .inl (kJ, 96, .inr (.inl (fun _ => 0)))), (xa30, .inl (kI, 30, .inl (fun _ => 0))), (xa31, .inl (kI, 12, .inl (fun _ => 0))), (xa32, .inl (kI, 12, .inl (fun _ => 0)))] sz) [(xa52, .inr (1, [.ref xa53, .int 0, .int 1])), (xa53, .inl (kC, 40, .inr (.inr (.inr (.inr g1))))), (xa28, .inr (0, [.ref xa29, .ref xa30, .ref xa31, .ref xa32, .int 5, .int 0, .int 0, .int 0, .int 0, .int 0])), (xa29, .inl (kJ, 96, .inr (.inl (fun _ => 0)))), (xa30, .inl (kI, 30, .inl (fun _ => 0))), (xa31, .inl (kI, 12, .inl (fun _ => 0))), (xa32, .inl (kI, 12, .inl (fun _ => 0)))]) (va_A [(xa52, .inr (1, [.ref xa53, .int 0, .int 0])), (xa53, .inl (kC, 40, .inr (.inr (.inr (.inr (fun _ => none)))))), (xa28, .inr (0, [.ref xa29, .ref xa30, .ref xa31, .ref xa32, .int 5, .int 0, .int 0, .int 0, .int 0, .int 0])), (xa29, .inl (kJ, 96, .inr (.inl (fun _ => 0)))), (xa30, .inl (kI, 30, .inl (fun _ => 0))), (xa31, .inl (kI, 12, .inl (fun _ => 0))), (xa32, .inl (kI, 12, .inl (fun _ => 0)))] sz)) 5 160 (va_A [(xa52, .inr (1, [.ref xa53, .int 0, .int 0])), (xa53, .inl (kC, 40, .inr (.inr (.inr (.inr (fun _ => none)))))), (xa28, .inr (0, [.ref xa29, .ref xa30, .ref xa31, .ref xa32, .int 5, .int 0, .int 0, .int 0, .int 0, .int 0])), (xa29, .inl (kJ, 96, .inr (.inl (fun _ => 0)))), (xa30, .inl (kI, 30, .inl (fun _ => 0))), (xa31, .inl (kI, 12, .inl (fun _ => 0))), (xa32, .inl (kI, 12, .inl (fun _ => 0)))] sz) := by
  refine Met.ofW (cc := cX1_keep) (maxL := 2) (ret := none) (by decide) rfl ?_
  intro p e s m args0 below meth c s₁ B hml hv
  obtain ⟨hargs, hsz, hP, hE, hD0⟩ := hv
  have hx := B.exec
  have hb := B.bytes
  have hr := B.returns
  have hts := atoms_spec (ws := wsX1_keep) B.pre
  have hown : s.vm.findClass RX1 = some m.cls := findClass_of_methodNamed B.named
  have hlocks := B.notSynchronized
  have hK := hE.1
  have hin1 : ∀ w ∈ wsX10, w ∈ wsX1_keep := fun _ h9 => List.mem_cons_of_mem _ (List.mem_append_left _ (List.mem_append_right _ h9))
  have hin0 : ∀ w ∈ wsX00, w ∈ wsX1_keep := fun _ h9 => List.mem_cons_of_mem _ (List.mem_append_right _ h9)
  subst hsz
  have hD := hD0.self (sz := s.heap.size)
  generalize hAe : va_A [(xa52, .inr (1, [.ref xa53, .int 0, .int 0])), (xa53, .inl (kC, 40, .inr (.inr (.inr (.inr (fun _ => none)))))), (xa28, .inr (0, [.ref xa29, .ref xa30, .ref xa31, .ref xa32, .int 5, .int 0, .int 0, .int 0, .int 0, .int 0])), (xa29, .inl (kJ, 96, .inr (.inl (fun _ => 0)))), (xa30, .inl (kI, 30, .inl (fun _ => 0))), (xa31, .inl (kI, 12, .inl (fun _ => 0))), (xa32, .inl (kI, 12, .inl (fun _ => 0)))] s.heap.size = A at hD ⊢
  have hA : ∀ q : Nat, s.heap.size ≤ q → A q := fun q h => by rw [← hAe]; exact Or.inr h
  have hS : va_S A s.heap s.heap [] := va_S.rf
  have hP : va_P (dC, dI) vwCl [(xa52, .inr (1, [.ref xa53, .int 0, .int 0])), (xa53, .inl (kC, 40, .inr (.inr (.inr (.inr (fun _ => none)))))), (xa28, .inr (0, [.ref xa29, .ref xa30, .ref xa31, .ref xa32, .int 5, .int 0, .int 0, .int 0, .int 0, .int 0])), (xa29, .inl (kJ, 96, .inr (.inl (fun _ => 0)))), (xa30, .inl (kI, 30, .inl (fun _ => 0))), (xa31, .inl (kI, 12, .inl (fun _ => 0))), (xa32, .inl (kI, 12, .inl (fun _ => 0)))] s.heap := hP
  have hl := lv_entry ([.ref xa52, .ref xa28]) (n := 2) (Nat.le_of_ble_eq_true rfl)
  have hla : entryFrame m args0 2 = entryFrame m ([.ref xa52, .ref xa28] : List Value).toArray 2 := by rw [hargs]
  rw [hla, lg_entry_eq]
  generalize (lg_sl ([.ref xa52, .ref xa28]) ++ List.replicate (2 - (lg_sl ([.ref xa52, .ref xa28])).length) Slot.unset).toArray = ls at hl ⊢
  have hl : lv_has ls 2 [(0, .ref xa52), (1, .ref xa28)] := hl
  refine lv_aload_n hx hb dX1_keep_0 rfl (lv_at hl 0 rfl) ?_
  refine va_get (D := (dC, dI)) (ci := 1) (v := .int 0) (C := RX1) (T := TX1) (N := 3) hx hb hts hin1 hown hK hP 0 rfl rfl 2 (by decide) (hts (.fieldLink RX1 21 "PathProber$History" "size" "I") (List.mem_of_getElem? (i := 1) (by decide +kernel))) (fun _ h9 => h9) rfl dX1_keep_1 ?_
  refine lv_bipush (v := 40) hx hb dX1_keep_4 (by decide) ?_
  refine lv_icmp_lt (tgt := 28) hx hb dX1_keep_6 (by decide) (fun _ => ?_) (fun c9 => absurd (by decide) c9)
  refine lv_aload_n hx hb dX1_keep_28 rfl (lv_at hl 0 rfl) ?_
  refine lv_aload_n hx hb dX1_keep_29 rfl (lv_at hl 0 rfl) ?_
  refine va_get (D := (dC, dI)) (ci := 1) (v := .int 0) (C := RX1) (T := TX1) (N := 3) hx hb hts hin1 hown hK hP 0 rfl rfl 2 (by decide) (hts (.fieldLink RX1 21 "PathProber$History" "size" "I") (List.mem_of_getElem? (i := 1) (by decide +kernel))) (fun _ h9 => h9) rfl dX1_keep_30 ?_
  have hPc := hP.sub (ws' := [(xa52, .inr (1, [.ref xa53, .int 0, .int 0])), (xa53, .inl (kC, 40, .inr (.inr (.inr (.inr (fun _ => none))))))]) [0, 1] rfl
  have hDc := hD.sub (ws' := [(xa52, .inr (1, [.ref xa53, .int 0, .int 0])), (xa53, .inl (kC, 40, .inr (.inr (.inr (.inr (fun _ => none))))))]) [0, 1] (by decide) rfl
  have hFc := va_free (wc := [(xa52, .inr (1, [.ref xa53, .int 0, .int 0])), (xa53, .inl (kC, 40, .inr (.inr (.inr (.inr (fun _ => none))))))]) hD hS hA [0, 1] rfl
  refine va_callr (va_runV (As := [.int 0]) (rest := []) ⟨hx, hb, hml, hown, hts⟩ (k1_rowOf l dC dI kB kI kJ kZ kC kS s.heap.size xa52 xa53) (cwV 1 hts gX1_keep_X1_rowOf rfl rfl rfl (by decide +kernel) ⟨Nat.le_of_ble_eq_true rfl, Nat.le_of_ble_eq_true rfl⟩) ⟨fun a U g mk q => by obtain ⟨q0, q1, qP, qE, qD⟩ := q; exact ⟨q0, q1, qP, kE_call qE, qD⟩, va_recv hK hP (ci := 1) (q0 := 0) rfl rfl, fun U hU hW => ⟨rfl, by rw [hU], by rw [hU]; exact hPc, kE_warm hW hE, hDc.weaken (fun _ _ _ _ => trivial)⟩⟩ rfl rfl hl.1 rfl (lv_room (Nat.le_of_ble_eq_true rfl)) dX1_keep_33 ⟨Nat.le_of_ble_eq_true rfl, Nat.le_of_ble_eq_true rfl⟩) hS (fun q _ h => hFc q h) hFc (fun u r1 t H1 locs ht hvm w2 hB hz1 hk1 hS => ?_)
  obtain ⟨w_3, w_4, w_5, w_6, g_7, hP1, hD1⟩ := hB
  rw [ht] at hP1
  try dsimp only at w2
  obtain ⟨hP, hD⟩ := va_join (wr := [(xa28, .inr (0, [.ref xa29, .ref xa30, .ref xa31, .ref xa32, .int 5, .int 0, .int 0, .int 0, .int 0, .int 0])), (xa29, .inl (kJ, 96, .inr (.inl (fun _ => 0)))), (xa30, .inl (kI, 30, .inl (fun _ => 0))), (xa31, .inl (kI, 12, .inl (fun _ => 0))), (xa32, .inl (kI, 12, .inl (fun _ => 0)))]) (w1 := [(xa52, .inr (1, [.ref xa53, .int 0, .int 0])), (xa53, .inl (kC, 40, .inr (.inr (.inr (.inr g_7))))), (r1, .inr (0, [.ref w_3, .ref w_4, .ref w_5, .ref w_6, .int 5, .int 0, .int 0, .int 0, .int 0, .int 0])), (w_3, .inl (kJ, 96, .inr (.inl (fun _ => 0)))), (w_4, .inl (kI, 30, .inl (fun _ => 0))), (w_5, .inl (kI, 12, .inl (fun _ => 0))), (w_6, .inl (kI, 12, .inl (fun _ => 0)))]) hP hD [0, 1] [2, 3, 4, 5, 6] rfl rfl (by decide) (by decide) hk1 hFc hP1 hD1
  generalize H1 = H at hP hS ⊢
  have hP : va_P (dC, dI) vwCl [(xa28, .inr (0, [.ref xa29, .ref xa30, .ref xa31, .ref xa32, .int 5, .int 0, .int 0, .int 0, .int 0, .int 0])), (xa29, .inl (kJ, 96, .inr (.inl (fun _ => 0)))), (xa30, .inl (kI, 30, .inl (fun _ => 0))), (xa31, .inl (kI, 12, .inl (fun _ => 0))), (xa32, .inl (kI, 12, .inl (fun _ => 0))), (xa52, .inr (1, [.ref xa53, .int 0, .int 0])), (xa53, .inl (kC, 40, .inr (.inr (.inr (.inr g_7))))), (r1, .inr (0, [.ref w_3, .ref w_4, .ref w_5, .ref w_6, .int 5, .int 0, .int 0, .int 0, .int 0, .int 0])), (w_3, .inl (kJ, 96, .inr (.inl (fun _ => 0)))), (w_4, .inl (kI, 30, .inl (fun _ => 0))), (w_5, .inl (kI, 12, .inl (fun _ => 0))), (w_6, .inl (kI, 12, .inl (fun _ => 0)))] H := hP
  have hD : va_D A [(xa28, .inr (0, [.ref xa29, .ref xa30, .ref xa31, .ref xa32, .int 5, .int 0, .int 0, .int 0, .int 0, .int 0])), (xa29, .inl (kJ, 96, .inr (.inl (fun _ => 0)))), (xa30, .inl (kI, 30, .inl (fun _ => 0))), (xa31, .inl (kI, 12, .inl (fun _ => 0))), (xa32, .inl (kI, 12, .inl (fun _ => 0))), (xa52, .inr (1, [.ref xa53, .int 0, .int 0])), (xa53, .inl (kC, 40, .inr (.inr (.inr (.inr g_7))))), (r1, .inr (0, [.ref w_3, .ref w_4, .ref w_5, .ref w_6, .int 5, .int 0, .int 0, .int 0, .int 0, .int 0])), (w_3, .inl (kJ, 96, .inr (.inl (fun _ => 0)))), (w_4, .inl (kI, 30, .inl (fun _ => 0))), (w_5, .inl (kI, 12, .inl (fun _ => 0))), (w_6, .inl (kI, 12, .inl (fun _ => 0)))] := hD
  refine W.widen (k := 5) (n := 160) (Nat.le_of_ble_eq_true rfl) (Nat.le_of_ble_eq_true rfl) ?_
  refine lv_aload_n hx hb dX1_keep_36 rfl (lv_at hl 1 rfl) ?_
  have hPc := hP.sub (ws' := [(r1, .inr (0, [.ref w_3, .ref w_4, .ref w_5, .ref w_6, .int 5, .int 0, .int 0, .int 0, .int 0, .int 0])), (w_3, .inl (kJ, 96, .inr (.inl (fun _ => 0)))), (w_4, .inl (kI, 30, .inl (fun _ => 0))), (w_5, .inl (kI, 12, .inl (fun _ => 0))), (w_6, .inl (kI, 12, .inl (fun _ => 0))), (xa28, .inr (0, [.ref xa29, .ref xa30, .ref xa31, .ref xa32, .int 5, .int 0, .int 0, .int 0, .int 0, .int 0])), (xa29, .inl (kJ, 96, .inr (.inl (fun _ => 0)))), (xa30, .inl (kI, 30, .inl (fun _ => 0))), (xa31, .inl (kI, 12, .inl (fun _ => 0))), (xa32, .inl (kI, 12, .inl (fun _ => 0)))]) [7, 8, 9, 10, 11, 0, 1, 2, 3, 4] rfl
  have hDc := hD.sub (ws' := [(r1, .inr (0, [.ref w_3, .ref w_4, .ref w_5, .ref w_6, .int 5, .int 0, .int 0, .int 0, .int 0, .int 0])), (w_3, .inl (kJ, 96, .inr (.inl (fun _ => 0)))), (w_4, .inl (kI, 30, .inl (fun _ => 0))), (w_5, .inl (kI, 12, .inl (fun _ => 0))), (w_6, .inl (kI, 12, .inl (fun _ => 0))), (xa28, .inr (0, [.ref xa29, .ref xa30, .ref xa31, .ref xa32, .int 5, .int 0, .int 0, .int 0, .int 0, .int 0])), (xa29, .inl (kJ, 96, .inr (.inl (fun _ => 0)))), (xa30, .inl (kI, 30, .inl (fun _ => 0))), (xa31, .inl (kI, 12, .inl (fun _ => 0))), (xa32, .inl (kI, 12, .inl (fun _ => 0)))]) [7, 8, 9, 10, 11, 0, 1, 2, 3, 4] (by decide) rfl
  have hFc := va_free (wc := [(r1, .inr (0, [.ref w_3, .ref w_4, .ref w_5, .ref w_6, .int 5, .int 0, .int 0, .int 0, .int 0, .int 0])), (w_3, .inl (kJ, 96, .inr (.inl (fun _ => 0)))), (w_4, .inl (kI, 30, .inl (fun _ => 0))), (w_5, .inl (kI, 12, .inl (fun _ => 0))), (w_6, .inl (kI, 12, .inl (fun _ => 0))), (xa28, .inr (0, [.ref xa29, .ref xa30, .ref xa31, .ref xa32, .int 5, .int 0, .int 0, .int 0, .int 0, .int 0])), (xa29, .inl (kJ, 96, .inr (.inl (fun _ => 0)))), (xa30, .inl (kI, 30, .inl (fun _ => 0))), (xa31, .inl (kI, 12, .inl (fun _ => 0))), (xa32, .inl (kI, 12, .inl (fun _ => 0)))]) hD hS hA [7, 8, 9, 10, 11, 0, 1, 2, 3, 4] rfl
  refine va_callv (va_runV (As := [.ref xa28]) (rest := []) ⟨hx, hb, hml, hown, hts⟩ (k0_copyFrom l dC dI kB kI kJ kZ kC kS H.size r1 w_3 w_4 w_5 w_6 xa28 xa29 xa30 xa31 xa32 5 0 0 0 0 0 5 0 0 0 0 0 (fun _ => 0) (fun _ => 0) (fun _ => 0) (fun _ => 0) (fun _ => 0) (fun _ => 0) (fun _ => 0) (fun _ => 0)) (cwV 1 hts gX1_keep_X0_copyFrom rfl rfl rfl (by decide +kernel) ⟨Nat.le_of_ble_eq_true rfl, Nat.le_of_ble_eq_true rfl⟩) ⟨fun a U g mk q => by obtain ⟨q0, q1, qP, qE, qD⟩ := q; exact ⟨q0, q1, qP, kE_call qE, qD⟩, va_recv hK hP (ci := 0) (q0 := 7) rfl rfl, fun U hU hW => ⟨rfl, by rw [hU], by rw [hU]; exact hPc, kE_warm hW hE, hDc.weaken (fun _ _ _ _ => trivial)⟩⟩ rfl rfl hl.1 rfl (lv_room (Nat.le_of_ble_eq_true rfl)) dX1_keep_37 ⟨Nat.le_of_ble_eq_true rfl, Nat.le_of_ble_eq_true rfl⟩) hS (fun q _ h => hFc q h) hFc (fun u t H1 locs ht hvm w9 hB hz1 hk1 hS => ?_)
  obtain ⟨g_10, g_11, g_12, g_13, hP1, hD1⟩ := hB
  rw [ht] at hP1
  try dsimp only at w9
  obtain ⟨hP, hD⟩ := va_join (wr := [(xa52, .inr (1, [.ref xa53, .int 0, .int 0])), (xa53, .inl (kC, 40, .inr (.inr (.inr (.inr g_7)))))]) (w1 := [(r1, .inr (0, [.ref w_3, .ref w_4, .ref w_5, .ref w_6, .int 5, .int 0, .int 0, .int 0, .int 0, .int 0])), (w_3, .inl (kJ, 96, .inr (.inl g_10))), (w_4, .inl (kI, 30, .inl g_11)), (w_5, .inl (kI, 12, .inl g_12)), (w_6, .inl (kI, 12, .inl g_13)), (xa28, .inr (0, [.ref xa29, .ref xa30, .ref xa31, .ref xa32, .int 5, .int 0, .int 0, .int 0, .int 0, .int 0])), (xa29, .inl (kJ, 96, .inr (.inl (fun _ => 0)))), (xa30, .inl (kI, 30, .inl (fun _ => 0))), (xa31, .inl (kI, 12, .inl (fun _ => 0))), (xa32, .inl (kI, 12, .inl (fun _ => 0)))]) hP hD [7, 8, 9, 10, 11, 0, 1, 2, 3, 4] [5, 6] rfl rfl (by decide) (by decide) hk1 hFc hP1 hD1
  generalize H1 = H at hP hS ⊢
  have hP : va_P (dC, dI) vwCl [(xa52, .inr (1, [.ref xa53, .int 0, .int 0])), (xa53, .inl (kC, 40, .inr (.inr (.inr (.inr g_7))))), (r1, .inr (0, [.ref w_3, .ref w_4, .ref w_5, .ref w_6, .int 5, .int 0, .int 0, .int 0, .int 0, .int 0])), (w_3, .inl (kJ, 96, .inr (.inl g_10))), (w_4, .inl (kI, 30, .inl g_11)), (w_5, .inl (kI, 12, .inl g_12)), (w_6, .inl (kI, 12, .inl g_13)), (xa28, .inr (0, [.ref xa29, .ref xa30, .ref xa31, .ref xa32, .int 5, .int 0, .int 0, .int 0, .int 0, .int 0])), (xa29, .inl (kJ, 96, .inr (.inl (fun _ => 0)))), (xa30, .inl (kI, 30, .inl (fun _ => 0))), (xa31, .inl (kI, 12, .inl (fun _ => 0))), (xa32, .inl (kI, 12, .inl (fun _ => 0)))] H := hP
  have hD : va_D A [(xa52, .inr (1, [.ref xa53, .int 0, .int 0])), (xa53, .inl (kC, 40, .inr (.inr (.inr (.inr g_7))))), (r1, .inr (0, [.ref w_3, .ref w_4, .ref w_5, .ref w_6, .int 5, .int 0, .int 0, .int 0, .int 0, .int 0])), (w_3, .inl (kJ, 96, .inr (.inl g_10))), (w_4, .inl (kI, 30, .inl g_11)), (w_5, .inl (kI, 12, .inl g_12)), (w_6, .inl (kI, 12, .inl g_13)), (xa28, .inr (0, [.ref xa29, .ref xa30, .ref xa31, .ref xa32, .int 5, .int 0, .int 0, .int 0, .int 0, .int 0])), (xa29, .inl (kJ, 96, .inr (.inl (fun _ => 0)))), (xa30, .inl (kI, 30, .inl (fun _ => 0))), (xa31, .inl (kI, 12, .inl (fun _ => 0))), (xa32, .inl (kI, 12, .inl (fun _ => 0)))] := hD
  refine W.widen (k := 5) (n := 160) (Nat.le_of_ble_eq_true rfl) (Nat.le_of_ble_eq_true rfl) ?_
  refine lv_aload_n hx hb dX1_keep_40 rfl (lv_at hl 0 rfl) ?_
  refine lv_dup hx hb dX1_keep_41 rfl ?_
  refine va_get (D := (dC, dI)) (ci := 1) (v := .int 0) (C := RX1) (T := TX1) (N := 3) hx hb hts hin1 hown hK hP 0 rfl rfl 2 (by decide) (hts (.fieldLink RX1 21 "PathProber$History" "size" "I") (List.mem_of_getElem? (i := 1) (by decide +kernel))) (fun _ h9 => h9) rfl dX1_keep_42 ?_
  refine lv_iconst (v := 1) hx hb dX1_keep_45 (by decide) ?_
  refine lv_iadd hx hb dX1_keep_46 ?_
  refine lv_topi (fun z14 e15 => ?_)
  obtain rfl : z14 = (1 : Int32) := e15.trans (by decide)
  refine va_put (D := (dC, dI)) (ci := 1) (v := .int 1) (ty := .int) (C := RX1) (T := TX1) (N := 3) hx hb hts hin1 tyX1 tyX1_ok nmX1 hown hK hP hD hS 0 rfl rfl 2 (by decide) (hts (.fieldLink RX1 21 "PathProber$History" "size" "I") (List.mem_of_getElem? (i := 1) (by decide +kernel))) (fun _ h9 => h9) rfl (by decide +kernel) rfl rfl (Nat.le_of_ble_eq_true rfl) dX1_keep_47 (fun H locs hP hD hS => ?_)
  have hP : va_P (dC, dI) vwCl [(xa52, .inr (1, [.ref xa53, .int 0, .int 1])), (xa53, .inl (kC, 40, .inr (.inr (.inr (.inr g_7))))), (r1, .inr (0, [.ref w_3, .ref w_4, .ref w_5, .ref w_6, .int 5, .int 0, .int 0, .int 0, .int 0, .int 0])), (w_3, .inl (kJ, 96, .inr (.inl g_10))), (w_4, .inl (kI, 30, .inl g_11)), (w_5, .inl (kI, 12, .inl g_12)), (w_6, .inl (kI, 12, .inl g_13)), (xa28, .inr (0, [.ref xa29, .ref xa30, .ref xa31, .ref xa32, .int 5, .int 0, .int 0, .int 0, .int 0, .int 0])), (xa29, .inl (kJ, 96, .inr (.inl (fun _ => 0)))), (xa30, .inl (kI, 30, .inl (fun _ => 0))), (xa31, .inl (kI, 12, .inl (fun _ => 0))), (xa32, .inl (kI, 12, .inl (fun _ => 0)))] H := hP
  have hD : va_D A [(xa52, .inr (1, [.ref xa53, .int 0, .int 1])), (xa53, .inl (kC, 40, .inr (.inr (.inr (.inr g_7))))), (r1, .inr (0, [.ref w_3, .ref w_4, .ref w_5, .ref w_6, .int 5, .int 0, .int 0, .int 0, .int 0, .int 0])), (w_3, .inl (kJ, 96, .inr (.inl g_10))), (w_4, .inl (kI, 30, .inl g_11)), (w_5, .inl (kI, 12, .inl g_12)), (w_6, .inl (kI, 12, .inl g_13)), (xa28, .inr (0, [.ref xa29, .ref xa30, .ref xa31, .ref xa32, .int 5, .int 0, .int 0, .int 0, .int 0, .int 0])), (xa29, .inl (kJ, 96, .inr (.inl (fun _ => 0)))), (xa30, .inl (kI, 30, .inl (fun _ => 0))), (xa31, .inl (kI, 12, .inl (fun _ => 0))), (xa32, .inl (kI, 12, .inl (fun _ => 0)))] := hD
  have hP9 := hP.sub (ws' := [(xa52, .inr (1, [.ref xa53, .int 0, .int 1])), (xa53, .inl (kC, 40, .inr (.inr (.inr (.inr g_7))))), (xa28, .inr (0, [.ref xa29, .ref xa30, .ref xa31, .ref xa32, .int 5, .int 0, .int 0, .int 0, .int 0, .int 0])), (xa29, .inl (kJ, 96, .inr (.inl (fun _ => 0)))), (xa30, .inl (kI, 30, .inl (fun _ => 0))), (xa31, .inl (kI, 12, .inl (fun _ => 0))), (xa32, .inl (kI, 12, .inl (fun _ => 0)))]) [0, 1, 7, 8, 9, 10, 11] rfl
  have hD9 := hD.sub (ws' := [(xa52, .inr (1, [.ref xa53, .int 0, .int 1])), (xa53, .inl (kC, 40, .inr (.inr (.inr (.inr g_7))))), (xa28, .inr (0, [.ref xa29, .ref xa30, .ref xa31, .ref xa32, .int 5, .int 0, .int 0, .int 0, .int 0, .int 0])), (xa29, .inl (kJ, 96, .inr (.inl (fun _ => 0)))), (xa30, .inl (kI, 30, .inl (fun _ => 0))), (xa31, .inl (kI, 12, .inl (fun _ => 0))), (xa32, .inl (kI, 12, .inl (fun _ => 0)))]) [0, 1, 7, 8, 9, 10, 11] (by decide) rfl
  exact W.vret hx hb hr (fun t ht hW => ⟨⟨(), rfl, trivial, g_7, by rw [ht]; exact hP9, hD9⟩, hS.F ht⟩) hS.2.2 dX1_keep_50
def rm_k1_copyFrom : Room := { frames := 0, cells := 0, slots := 0, locals := 0 }
set_option maxHeartbeats 4000000 in
set_option maxRecDepth 100000 in
theorem k1_copyFrom (l : Launch) (dC : Nat → ClassId) (dI : Nat → Nat → Nat) (kB kI kJ kZ kC kS : ClassId) (sz : Nat) (xa60 : Nat) (xa61 : Nat) (xa52 : Nat) (xa53 : Nat) : Met l yX1_copyFrom wsX1_copyFrom rm_k1_copyFrom (va_Pc [.ref xa60, .ref xa52] (fun U => U.heap.size = sz ∧ va_P (dC, dI) vwCl [(xa60, .inr (1, [.ref xa61, .int 0, .int 0])), (xa52, .inr (1, [.ref xa53, .int 0, .int 0]))] U.heap ∧ kE dC dI kB kI kJ kZ kC kS U ∧ va_D (fun _ => True) [(xa60, .inr (1, [.ref xa61, .int 0, .int 0])), (xa52, .inr (1, [.ref xa53, .int 0, .int 0]))])) (va_Qv (fun (_ : Unit) => True) (fun _ t => va_P (dC, dI) vwCl [(xa60, .inr (1, [.ref xa61, .int 0, .int 0])), (xa52, .inr (1, [.ref xa53, .int 0, .int 0]))] t.heap ∧ va_D (va_A [(xa60, .inr (1, [.ref xa61, .int 0, .int 0])), (xa52, .inr (1, [.ref xa53, .int 0, .int 0]))] sz) [(xa60, .inr (1, [.ref xa61, .int 0, .int 0])), (xa52, .inr (1, [.ref xa53, .int 0, .int 0]))]) (va_A [(xa60, .inr (1, [.ref xa61, .int 0, .int 0])), (xa52, .inr (1, [.ref xa53, .int 0, .int 0]))] sz)) 0 0 (va_A [(xa60, .inr (1, [.ref xa61, .int 0, .int 0])), (xa52, .inr (1, [.ref xa53, .int 0, .int 0]))] sz) := by
  refine Met.ofW (cc := cX1_copyFrom) (maxL := 3) (ret := none) (by decide) rfl ?_
  intro p e s m args0 below meth c s₁ B hml hv
  obtain ⟨hargs, hsz, hP, hE, hD0⟩ := hv
  have hx := B.exec
  have hb := B.bytes
  have hr := B.returns
  have hts := atoms_spec (ws := wsX1_copyFrom) B.pre
  have hown : s.vm.findClass RX1 = some m.cls := findClass_of_methodNamed B.named
  have hlocks := B.notSynchronized
  have hK := hE.1
  have hin1 : ∀ w ∈ wsX10, w ∈ wsX1_copyFrom := fun _ h9 => List.mem_cons_of_mem _ (List.mem_append_left _ (List.mem_append_right _ h9))
  have hin0 : ∀ w ∈ wsX00, w ∈ wsX1_copyFrom := fun _ h9 => List.mem_cons_of_mem _ (List.mem_append_right _ h9)
  subst hsz
  have hD := hD0.self (sz := s.heap.size)
  generalize hAe : va_A [(xa60, .inr (1, [.ref xa61, .int 0, .int 0])), (xa52, .inr (1, [.ref xa53, .int 0, .int 0]))] s.heap.size = A at hD ⊢
  have hA : ∀ q : Nat, s.heap.size ≤ q → A q := fun q h => by rw [← hAe]; exact Or.inr h
  have hS : va_S A s.heap s.heap [] := va_S.rf
  have hP : va_P (dC, dI) vwCl [(xa60, .inr (1, [.ref xa61, .int 0, .int 0])), (xa52, .inr (1, [.ref xa53, .int 0, .int 0]))] s.heap := hP
  have hl := lv_entry ([.ref xa60, .ref xa52]) (n := 3) (Nat.le_of_ble_eq_true rfl)
  have hla : entryFrame m args0 3 = entryFrame m ([.ref xa60, .ref xa52] : List Value).toArray 3 := by rw [hargs]
  rw [hla, lg_entry_eq]
  generalize (lg_sl ([.ref xa60, .ref xa52]) ++ List.replicate (3 - (lg_sl ([.ref xa60, .ref xa52])).length) Slot.unset).toArray = ls at hl ⊢
  have hl : lv_has ls 3 [(0, .ref xa60), (1, .ref xa52)] := hl
  refine lv_aload_n hx hb dX1_copyFrom_0 rfl (lv_at hl 0 rfl) ?_
  refine lv_iconst (v := 0) hx hb dX1_copyFrom_1 (by decide) ?_
  refine va_put (D := (dC, dI)) (ci := 1) (v := .int 0) (ty := .int) (C := RX1) (T := TX1) (N := 3) hx hb hts hin1 tyX1 tyX1_ok nmX1 hown hK hP hD hS 0 rfl rfl 2 (by decide) (hts (.fieldLink RX1 21 "PathProber$History" "size" "I") (List.mem_of_getElem? (i := 1) (by decide +kernel))) (fun _ h9 => h9) rfl (by decide +kernel) rfl rfl (Nat.le_of_ble_eq_true rfl) dX1_copyFrom_2 (fun H locs hP hD hS => ?_)
  have hP : va_P (dC, dI) vwCl [(xa60, .inr (1, [.ref xa61, .int 0, .int 0])), (xa52, .inr (1, [.ref xa53, .int 0, .int 0]))] H := hP
  have hD : va_D A [(xa60, .inr (1, [.ref xa61, .int 0, .int 0])), (xa52, .inr (1, [.ref xa53, .int 0, .int 0]))] := hD
  refine lv_iconst (v := 0) hx hb dX1_copyFrom_5 (by decide) ?_
  refine lv_istore_n (lv' := [(2, .int 0), (0, .ref xa60), (1, .ref xa52)]) hx hb dX1_copyFrom_6 rfl hl (by decide) rfl (fun ls hl => ?_)
  refine lv_iload_n hx hb dX1_copyFrom_7 rfl (lv_at hl 0 rfl) ?_
  refine lv_aload_n hx hb dX1_copyFrom_8 rfl (lv_at hl 2 rfl) ?_
  refine va_get (D := (dC, dI)) (ci := 1) (v := .int 0) (C := RX1) (T := TX1) (N := 3) hx hb hts hin1 hown hK hP 1 rfl rfl 2 (by decide) (hts (.fieldLink RX1 21 "PathProber$History" "size" "I") (List.mem_of_getElem? (i := 1) (by decide +kernel))) (fun _ h9 => h9) rfl dX1_copyFrom_9 ?_
  refine lv_icmp_ge (tgt := 30) hx hb dX1_copyFrom_12 (by decide) (fun _ => ?_) (fun c9 => absurd (by decide) c9)
  have hP9 := hP.sub (ws' := [(xa60, .inr (1, [.ref xa61, .int 0, .int 0])), (xa52, .inr (1, [.ref xa53, .int 0, .int 0]))]) [0, 1] rfl
  have hD9 := hD.sub (ws' := [(xa60, .inr (1, [.ref xa61, .int 0, .int 0])), (xa52, .inr (1, [.ref xa53, .int 0, .int 0]))]) [0, 1] (by decide) rfl
  exact W.vret hx hb hr (fun t ht hW => ⟨⟨(), rfl, trivial, by rw [ht]; exact hP9, hD9⟩, hS.F ht⟩) hS.2.2 dX1_copyFrom_30
def rm_k3_copyFrom : Room := { frames := 1, cells := 0, slots := 0, locals := 60 }
set_option maxHeartbeats 4000000 in
set_option maxRecDepth 100000 in
theorem k3_copyFrom (l : Launch) (dC : Nat → ClassId) (dI : Nat → Nat → Nat) (kB kI kJ kZ kC kS : ClassId) (sz : Nat) (xa62 : Nat) (xa3 : Nat) (xa45 : Nat) (xa63 : Nat) (xa64 : Nat) (xa65 : Nat) (xa66 : Nat) (xa47 : Nat) (xa48 : Nat) (xa49 : Nat) (xa50 : Nat) (xa51 : Nat) : Met l yX3_copyFrom wsX3_copyFrom rm_k3_copyFrom (va_Pc [.ref xa62, .ref xa47] (fun U => U.heap.size = sz ∧ va_P (dC, dI) vwCl [(xa62, .inr (3, [.ref xa3, .ref xa45, .ref xa63, .ref xa64, .ref xa65, .ref xa66, .int 0, .int (-1), .int 0])), (xa63, .inl (kI, 8, .inl (fun _ => 0))), (xa64, .inl (kI, 8, .inl (fun _ => 0))), (xa65, .inl (kI, 8, .inl (fun _ => 0))), (xa66, .inl (kI, 8, .inl (fun _ => 0))), (xa47, .inr (3, [.ref xa3, .ref xa45, .ref xa48, .ref xa49, .ref xa50, .ref xa51, .int 0, .int (-1), .int 0])), (xa48, .inl (kI, 8, .inl (fun _ => 0))), (xa49, .inl (kI, 8, .inl (fun _ => 0))), (xa50, .inl (kI, 8, .inl (fun _ => 0))), (xa51, .inl (kI, 8, .inl (fun _ => 0)))] U.heap ∧ kE dC dI kB kI kJ kZ kC kS U ∧ va_D (fun _ => True) [(xa62, .inr (3, [.ref xa3, .ref xa45, .ref xa63, .ref xa64, .ref xa65, .ref xa66, .int 0, .int (-1), .int 0])), (xa63, .inl (kI, 8, .inl (fun _ => 0))), (xa64, .inl (kI, 8, .inl (fun _ => 0))), (xa65, .inl (kI, 8, .inl (fun _ => 0))), (xa66, .inl (kI, 8, .inl (fun _ => 0))), (xa47, .inr (3, [.ref xa3, .ref xa45, .ref xa48, .ref xa49, .ref xa50, .ref xa51, .int 0, .int (-1), .int 0])), (xa48, .inl (kI, 8, .inl (fun _ => 0))), (xa49, .inl (kI, 8, .inl (fun _ => 0))), (xa50, .inl (kI, 8, .inl (fun _ => 0))), (xa51, .inl (kI, 8, .inl (fun _ => 0)))])) (va_Qv (fun (_ : Unit) => True) (fun _ t => ∃ (g1 : Nat → Int32) (g2 : Nat → Int32) (g3 : Nat → Int32) (g4 : Nat → Int32), va_P (dC, dI) vwCl [(xa62, .inr (3, [.ref xa3, .ref xa45, .ref xa63, .ref xa64, .ref xa65, .ref xa66, .int 0, .int (-1), .int 0])), (xa63, .inl (kI, 8, .inl g1)), (xa64, .inl (kI, 8, .inl g2)), (xa65, .inl (kI, 8, .inl g3)), (xa66, .inl (kI, 8, .inl g4)), (xa47, .inr (3, [.ref xa3, .ref xa45, .ref xa48, .ref xa49, .ref xa50, .ref xa51, .int 0, .int (-1), .int 0])), (xa48, .inl (kI, 8, .inl (fun _ => 0))), (xa49, .inl (kI, 8, .inl (fun _ => 0))), (xa50, .inl (kI, 8, .inl (fun _ => 0))), (xa51, .inl (kI, 8, .inl (fun _ => 0)))] t.heap ∧ va_D (va_A [(xa62, .inr (3, [.ref xa3, .ref xa45, .ref xa63, .ref xa64, .ref xa65, .ref xa66, .int 0, .int (-1), .int 0])), (xa63, .inl (kI, 8, .inl (fun _ => 0))), (xa64, .inl (kI, 8, .inl (fun _ => 0))), (xa65, .inl (kI, 8, .inl (fun _ => 0))), (xa66, .inl (kI, 8, .inl (fun _ => 0))), (xa47, .inr (3, [.ref xa3, .ref xa45, .ref xa48, .ref xa49, .ref xa50, .ref xa51, .int 0, .int (-1), .int 0])), (xa48, .inl (kI, 8, .inl (fun _ => 0))), (xa49, .inl (kI, 8, .inl (fun _ => 0))), (xa50, .inl (kI, 8, .inl (fun _ => 0))), (xa51, .inl (kI, 8, .inl (fun _ => 0)))] sz) [(xa62, .inr (3, [.ref xa3, .ref xa45, .ref xa63, .ref xa64, .ref xa65, .ref xa66, .int 0, .int (-1), .int 0])), (xa63, .inl (kI, 8, .inl g1)), (xa64, .inl (kI, 8, .inl g2)), (xa65, .inl (kI, 8, .inl g3)), (xa66, .inl (kI, 8, .inl g4)), (xa47, .inr (3, [.ref xa3, .ref xa45, .ref xa48, .ref xa49, .ref xa50, .ref xa51, .int 0, .int (-1), .int 0])), (xa48, .inl (kI, 8, .inl (fun _ => 0))), (xa49, .inl (kI, 8, .inl (fun _ => 0))), (xa50, .inl (kI, 8, .inl (fun _ => 0))), (xa51, .inl (kI, 8, .inl (fun _ => 0)))]) (va_A [(xa62, .inr (3, [.ref xa3, .ref xa45, .ref xa63, .ref xa64, .ref xa65, .ref xa66, .int 0, .int (-1), .int 0])), (xa63, .inl (kI, 8, .inl (fun _ => 0))), (xa64, .inl (kI, 8, .inl (fun _ => 0))), (xa65, .inl (kI, 8, .inl (fun _ => 0))), (xa66, .inl (kI, 8, .inl (fun _ => 0))), (xa47, .inr (3, [.ref xa3, .ref xa45, .ref xa48, .ref xa49, .ref xa50, .ref xa51, .int 0, .int (-1), .int 0])), (xa48, .inl (kI, 8, .inl (fun _ => 0))), (xa49, .inl (kI, 8, .inl (fun _ => 0))), (xa50, .inl (kI, 8, .inl (fun _ => 0))), (xa51, .inl (kI, 8, .inl (fun _ => 0)))] sz)) 0 0 (va_A [(xa62, .inr (3, [.ref xa3, .ref xa45, .ref xa63, .ref xa64, .ref xa65, .ref xa66, .int 0, .int (-1), .int 0])), (xa63, .inl (kI, 8, .inl (fun _ => 0))), (xa64, .inl (kI, 8, .inl (fun _ => 0))), (xa65, .inl (kI, 8, .inl (fun _ => 0))), (xa66, .inl (kI, 8, .inl (fun _ => 0))), (xa47, .inr (3, [.ref xa3, .ref xa45, .ref xa48, .ref xa49, .ref xa50, .ref xa51, .int 0, .int (-1), .int 0])), (xa48, .inl (kI, 8, .inl (fun _ => 0))), (xa49, .inl (kI, 8, .inl (fun _ => 0))), (xa50, .inl (kI, 8, .inl (fun _ => 0))), (xa51, .inl (kI, 8, .inl (fun _ => 0)))] sz) := by
  refine Met.ofW (cc := cX3_copyFrom) (maxL := 2) (ret := none) (by decide) rfl ?_
  intro p e s m args0 below meth c s₁ B hml hv
  obtain ⟨hargs, hsz, hP, hE, hD0⟩ := hv
  have hx := B.exec
  have hb := B.bytes
  have hr := B.returns
  have hts := atoms_spec (ws := wsX3_copyFrom) B.pre
  have hown : s.vm.findClass RX3 = some m.cls := findClass_of_methodNamed B.named
  have hlocks := B.notSynchronized
  have hK := hE.1
  have hin3 : ∀ w ∈ wsX30, w ∈ wsX3_copyFrom := fun _ h9 => List.mem_cons_of_mem _ (List.mem_append_right _ h9)
  subst hsz
  have hD := hD0.self (sz := s.heap.size)
  generalize hAe : va_A [(xa62, .inr (3, [.ref xa3, .ref xa45, .ref xa63, .ref xa64, .ref xa65, .ref xa66, .int 0, .int (-1), .int 0])), (xa63, .inl (kI, 8, .inl (fun _ => 0))), (xa64, .inl (kI, 8, .inl (fun _ => 0))), (xa65, .inl (kI, 8, .inl (fun _ => 0))), (xa66, .inl (kI, 8, .inl (fun _ => 0))), (xa47, .inr (3, [.ref xa3, .ref xa45, .ref xa48, .ref xa49, .ref xa50, .ref xa51, .int 0, .int (-1), .int 0])), (xa48, .inl (kI, 8, .inl (fun _ => 0))), (xa49, .inl (kI, 8, .inl (fun _ => 0))), (xa50, .inl (kI, 8, .inl (fun _ => 0))), (xa51, .inl (kI, 8, .inl (fun _ => 0)))] s.heap.size = A at hD ⊢
  have hA : ∀ q : Nat, s.heap.size ≤ q → A q := fun q h => by rw [← hAe]; exact Or.inr h
  have hS : va_S A s.heap s.heap [] := va_S.rf
  have hP : va_P (dC, dI) vwCl [(xa62, .inr (3, [.ref xa3, .ref xa45, .ref xa63, .ref xa64, .ref xa65, .ref xa66, .int 0, .int (-1), .int 0])), (xa63, .inl (kI, 8, .inl (fun _ => 0))), (xa64, .inl (kI, 8, .inl (fun _ => 0))), (xa65, .inl (kI, 8, .inl (fun _ => 0))), (xa66, .inl (kI, 8, .inl (fun _ => 0))), (xa47, .inr (3, [.ref xa3, .ref xa45, .ref xa48, .ref xa49, .ref xa50, .ref xa51, .int 0, .int (-1), .int 0])), (xa48, .inl (kI, 8, .inl (fun _ => 0))), (xa49, .inl (kI, 8, .inl (fun _ => 0))), (xa50, .inl (kI, 8, .inl (fun _ => 0))), (xa51, .inl (kI, 8, .inl (fun _ => 0)))] s.heap := hP
  have hl := lv_entry ([.ref xa62, .ref xa47]) (n := 2) (Nat.le_of_ble_eq_true rfl)
  have hla : entryFrame m args0 2 = entryFrame m ([.ref xa62, .ref xa47] : List Value).toArray 2 := by rw [hargs]
  rw [hla, lg_entry_eq]
  generalize (lg_sl ([.ref xa62, .ref xa47]) ++ List.replicate (2 - (lg_sl ([.ref xa62, .ref xa47])).length) Slot.unset).toArray = ls at hl ⊢
  have hl : lv_has ls 2 [(0, .ref xa62), (1, .ref xa47)] := hl
  refine lv_aload_n hx hb dX3_copyFrom_0 rfl (lv_at hl 1 rfl) ?_
  refine va_get (D := (dC, dI)) (ci := 3) (v := .ref xa48) (C := RX3) (T := TX3) (N := 9) hx hb hts hin3 hown hK hP 5 rfl rfl 2 (by decide) (hts (.fieldLink RX3 9 "PathProber$Notebook" "port" "[I") (List.mem_of_getElem? (i := 1) (by decide +kernel))) (fun _ h9 => h9) rfl dX3_copyFrom_1 ?_
  refine lv_iconst (v := 0) hx hb dX3_copyFrom_4 (by decide) ?_
  refine lv_aload_n hx hb dX3_copyFrom_5 rfl (lv_at hl 0 rfl) ?_
  refine va_get (D := (dC, dI)) (ci := 3) (v := .ref xa63) (C := RX3) (T := TX3) (N := 9) hx hb hts hin3 hown hK hP 0 rfl rfl 2 (by decide) (hts (.fieldLink RX3 9 "PathProber$Notebook" "port" "[I") (List.mem_of_getElem? (i := 1) (by decide +kernel))) (fun _ h9 => h9) rfl dX3_copyFrom_6 ?_
  refine lv_iconst (v := 0) hx hb dX3_copyFrom_9 (by decide) ?_
  refine lv_bipush (v := 8) hx hb dX3_copyFrom_10 (by decide) ?_
  refine va_copyi hx hb (by rw [hml]; exact hl.1.symm) hown (hts (.methodLink RX3 42 arraycopyName) (List.mem_of_getElem? (i := 2) (by decide +kernel))) (hts (.native arraycopyName) (List.mem_of_getElem? (i := 3) (by decide +kernel))) (hts (.static arraycopyName) (List.mem_of_getElem? (i := 4) (by decide +kernel))) (hts (.initialized "java/lang/System") (List.mem_of_getElem? (i := 5) (by decide +kernel))) hK hP hD hS 6 1 1 1 rfl rfl rfl rfl rfl (by decide) (by decide) (by decide) (by decide) (by decide) (fun _ _ => rfl) (Nat.le_of_ble_eq_true rfl) (Nat.le_of_ble_eq_true rfl) dX3_copyFrom_12 (fun H locs hP hD hS => ?_)
  have hP : va_P (dC, dI) vwCl [(xa62, .inr (3, [.ref xa3, .ref xa45, .ref xa63, .ref xa64, .ref xa65, .ref xa66, .int 0, .int (-1), .int 0])), (xa63, .inl (kI, 8, .inl (va_cpy (fun _ => 0) (fun _ => 0) 0 0 8))), (xa64, .inl (kI, 8, .inl (fun _ => 0))), (xa65, .inl (kI, 8, .inl (fun _ => 0))), (xa66, .inl (kI, 8, .inl (fun _ => 0))), (xa47, .inr (3, [.ref xa3, .ref xa45, .ref xa48, .ref xa49, .ref xa50, .ref xa51, .int 0, .int (-1), .int 0])), (xa48, .inl (kI, 8, .inl (fun _ => 0))), (xa49, .inl (kI, 8, .inl (fun _ => 0))), (xa50, .inl (kI, 8, .inl (fun _ => 0))), (xa51, .inl (kI, 8, .inl (fun _ => 0)))] H := hP
  have hD : va_D A [(xa62, .inr (3, [.ref xa3, .ref xa45, .ref xa63, .ref xa64, .ref xa65, .ref xa66, .int 0, .int (-1), .int 0])), (xa63, .inl (kI, 8, .inl (va_cpy (fun _ => 0) (fun _ => 0) 0 0 8))), (xa64, .inl (kI, 8, .inl (fun _ => 0))), (xa65, .inl (kI, 8, .inl (fun _ => 0))), (xa66, .inl (kI, 8, .inl (fun _ => 0))), (xa47, .inr (3, [.ref xa3, .ref xa45, .ref xa48, .ref xa49, .ref xa50, .ref xa51, .int 0, .int (-1), .int 0])), (xa48, .inl (kI, 8, .inl (fun _ => 0))), (xa49, .inl (kI, 8, .inl (fun _ => 0))), (xa50, .inl (kI, 8, .inl (fun _ => 0))), (xa51, .inl (kI, 8, .inl (fun _ => 0)))] := hD
  refine lv_aload_n hx hb dX3_copyFrom_15 rfl (lv_at hl 1 rfl) ?_
  refine va_get (D := (dC, dI)) (ci := 3) (v := .ref xa49) (C := RX3) (T := TX3) (N := 9) hx hb hts hin3 hown hK hP 5 rfl rfl 3 (by decide) (hts (.fieldLink RX3 15 "PathProber$Notebook" "goal" "[I") (List.mem_of_getElem? (i := 6) (by decide +kernel))) (fun _ h9 => h9) rfl dX3_copyFrom_16 ?_
  refine lv_iconst (v := 0) hx hb dX3_copyFrom_19 (by decide) ?_
  refine lv_aload_n hx hb dX3_copyFrom_20 rfl (lv_at hl 0 rfl) ?_
  refine va_get (D := (dC, dI)) (ci := 3) (v := .ref xa64) (C := RX3) (T := TX3) (N := 9) hx hb hts hin3 hown hK hP 0 rfl rfl 3 (by decide) (hts (.fieldLink RX3 15 "PathProber$Notebook" "goal" "[I") (List.mem_of_getElem? (i := 6) (by decide +kernel))) (fun _ h9 => h9) rfl dX3_copyFrom_21 ?_
  refine lv_iconst (v := 0) hx hb dX3_copyFrom_24 (by decide) ?_
  refine lv_bipush (v := 8) hx hb dX3_copyFrom_25 (by decide) ?_
  refine va_copyi hx hb (by rw [hml]; exact hl.1.symm) hown (hts (.methodLink RX3 42 arraycopyName) (List.mem_of_getElem? (i := 2) (by decide +kernel))) (hts (.native arraycopyName) (List.mem_of_getElem? (i := 3) (by decide +kernel))) (hts (.static arraycopyName) (List.mem_of_getElem? (i := 4) (by decide +kernel))) (hts (.initialized "java/lang/System") (List.mem_of_getElem? (i := 5) (by decide +kernel))) hK hP hD hS 7 2 1 1 rfl rfl rfl rfl rfl (by decide) (by decide) (by decide) (by decide) (by decide) (fun _ _ => rfl) (Nat.le_of_ble_eq_true rfl) (Nat.le_of_ble_eq_true rfl) dX3_copyFrom_27 (fun H locs hP hD hS => ?_)
  have hP : va_P (dC, dI) vwCl [(xa62, .inr (3, [.ref xa3, .ref xa45, .ref xa63, .ref xa64, .ref xa65, .ref xa66, .int 0, .int (-1), .int 0])), (xa63, .inl (kI, 8, .inl (va_cpy (fun _ => 0) (fun _ => 0) 0 0 8))), (xa64, .inl (kI, 8, .inl (va_cpy (fun _ => 0) (fun _ => 0) 0 0 8))), (xa65, .inl (kI, 8, .inl (fun _ => 0))), (xa66, .inl (kI, 8, .inl (fun _ => 0))), (xa47, .inr (3, [.ref xa3, .ref xa45, .ref xa48, .ref xa49, .ref xa50, .ref xa51, .int 0, .int (-1), .int 0])), (xa48, .inl (kI, 8, .inl (fun _ => 0))), (xa49, .inl (kI, 8, .inl (fun _ => 0))), (xa50, .inl (kI, 8, .inl (fun _ => 0))), (xa51, .inl (kI, 8, .inl (fun _ => 0)))] H := hP
  have hD : va_D A [(xa62, .inr (3, [.ref xa3, .ref xa45, .ref xa63, .ref xa64, .ref xa65, .ref xa66, .int 0, .int (-1), .int 0])), (xa63, .inl (kI, 8, .inl (va_cpy (fun _ => 0) (fun _ => 0) 0 0 8))), (xa64, .inl (kI, 8, .inl (va_cpy (fun _ => 0) (fun _ => 0) 0 0 8))), (xa65, .inl (kI, 8, .inl (fun _ => 0))), (xa66, .inl (kI, 8, .inl (fun _ => 0))), (xa47, .inr (3, [.ref xa3, .ref xa45, .ref xa48, .ref xa49, .ref xa50, .ref xa51, .int 0, .int (-1), .int 0])), (xa48, .inl (kI, 8, .inl (fun _ => 0))), (xa49, .inl (kI, 8, .inl (fun _ => 0))), (xa50, .inl (kI, 8, .inl (fun _ => 0))), (xa51, .inl (kI, 8, .inl (fun _ => 0)))] := hD
  refine lv_aload_n hx hb dX3_copyFrom_30 rfl (lv_at hl 1 rfl) ?_
  refine va_get (D := (dC, dI)) (ci := 3) (v := .ref xa50) (C := RX3) (T := TX3) (N := 9) hx hb hts hin3 hown hK hP 5 rfl rfl 4 (by decide) (hts (.fieldLink RX3 18 "PathProber$Notebook" "hops" "[I") (List.mem_of_getElem? (i := 7) (by decide +kernel))) (fun _ h9 => h9) rfl dX3_copyFrom_31 ?_
  refine lv_iconst (v := 0) hx hb dX3_copyFrom_34 (by decide) ?_
  refine lv_aload_n hx hb dX3_copyFrom_35 rfl (lv_at hl 0 rfl) ?_
  refine va_get (D := (dC, dI)) (ci := 3) (v := .ref xa65) (C := RX3) (T := TX3) (N := 9) hx hb hts hin3 hown hK hP 0 rfl rfl 4 (by decide) (hts (.fieldLink RX3 18 "PathProber$Notebook" "hops" "[I") (List.mem_of_getElem? (i := 7) (by decide +kernel))) (fun _ h9 => h9) rfl dX3_copyFrom_36 ?_
  refine lv_iconst (v := 0) hx hb dX3_copyFrom_39 (by decide) ?_
  refine lv_bipush (v := 8) hx hb dX3_copyFrom_40 (by decide) ?_
  refine va_copyi hx hb (by rw [hml]; exact hl.1.symm) hown (hts (.methodLink RX3 42 arraycopyName) (List.mem_of_getElem? (i := 2) (by decide +kernel))) (hts (.native arraycopyName) (List.mem_of_getElem? (i := 3) (by decide +kernel))) (hts (.static arraycopyName) (List.mem_of_getElem? (i := 4) (by decide +kernel))) (hts (.initialized "java/lang/System") (List.mem_of_getElem? (i := 5) (by decide +kernel))) hK hP hD hS 8 3 1 1 rfl rfl rfl rfl rfl (by decide) (by decide) (by decide) (by decide) (by decide) (fun _ _ => rfl) (Nat.le_of_ble_eq_true rfl) (Nat.le_of_ble_eq_true rfl) dX3_copyFrom_42 (fun H locs hP hD hS => ?_)
  have hP : va_P (dC, dI) vwCl [(xa62, .inr (3, [.ref xa3, .ref xa45, .ref xa63, .ref xa64, .ref xa65, .ref xa66, .int 0, .int (-1), .int 0])), (xa63, .inl (kI, 8, .inl (va_cpy (fun _ => 0) (fun _ => 0) 0 0 8))), (xa64, .inl (kI, 8, .inl (va_cpy (fun _ => 0) (fun _ => 0) 0 0 8))), (xa65, .inl (kI, 8, .inl (va_cpy (fun _ => 0) (fun _ => 0) 0 0 8))), (xa66, .inl (kI, 8, .inl (fun _ => 0))), (xa47, .inr (3, [.ref xa3, .ref xa45, .ref xa48, .ref xa49, .ref xa50, .ref xa51, .int 0, .int (-1), .int 0])), (xa48, .inl (kI, 8, .inl (fun _ => 0))), (xa49, .inl (kI, 8, .inl (fun _ => 0))), (xa50, .inl (kI, 8, .inl (fun _ => 0))), (xa51, .inl (kI, 8, .inl (fun _ => 0)))] H := hP
  have hD : va_D A [(xa62, .inr (3, [.ref xa3, .ref xa45, .ref xa63, .ref xa64, .ref xa65, .ref xa66, .int 0, .int (-1), .int 0])), (xa63, .inl (kI, 8, .inl (va_cpy (fun _ => 0) (fun _ => 0) 0 0 8))), (xa64, .inl (kI, 8, .inl (va_cpy (fun _ => 0) (fun _ => 0) 0 0 8))), (xa65, .inl (kI, 8, .inl (va_cpy (fun _ => 0) (fun _ => 0) 0 0 8))), (xa66, .inl (kI, 8, .inl (fun _ => 0))), (xa47, .inr (3, [.ref xa3, .ref xa45, .ref xa48, .ref xa49, .ref xa50, .ref xa51, .int 0, .int (-1), .int 0])), (xa48, .inl (kI, 8, .inl (fun _ => 0))), (xa49, .inl (kI, 8, .inl (fun _ => 0))), (xa50, .inl (kI, 8, .inl (fun _ => 0))), (xa51, .inl (kI, 8, .inl (fun _ => 0)))] := hD
  refine lv_aload_n hx hb dX3_copyFrom_45 rfl (lv_at hl 1 rfl) ?_
  refine va_get (D := (dC, dI)) (ci := 3) (v := .ref xa51) (C := RX3) (T := TX3) (N := 9) hx hb hts hin3 hown hK hP 5 rfl rfl 5 (by decide) (hts (.fieldLink RX3 21 "PathProber$Notebook" "address" "[I") (List.mem_of_getElem? (i := 8) (by decide +kernel))) (fun _ h9 => h9) rfl dX3_copyFrom_46 ?_
  refine lv_iconst (v := 0) hx hb dX3_copyFrom_49 (by decide) ?_
  refine lv_aload_n hx hb dX3_copyFrom_50 rfl (lv_at hl 0 rfl) ?_
  refine va_get (D := (dC, dI)) (ci := 3) (v := .ref xa66) (C := RX3) (T := TX3) (N := 9) hx hb hts hin3 hown hK hP 0 rfl rfl 5 (by decide) (hts (.fieldLink RX3 21 "PathProber$Notebook" "address" "[I") (List.mem_of_getElem? (i := 8) (by decide +kernel))) (fun _ h9 => h9) rfl dX3_copyFrom_51 ?_
  refine lv_iconst (v := 0) hx hb dX3_copyFrom_54 (by decide) ?_
  refine lv_bipush (v := 8) hx hb dX3_copyFrom_55 (by decide) ?_
  refine va_copyi hx hb (by rw [hml]; exact hl.1.symm) hown (hts (.methodLink RX3 42 arraycopyName) (List.mem_of_getElem? (i := 2) (by decide +kernel))) (hts (.native arraycopyName) (List.mem_of_getElem? (i := 3) (by decide +kernel))) (hts (.static arraycopyName) (List.mem_of_getElem? (i := 4) (by decide +kernel))) (hts (.initialized "java/lang/System") (List.mem_of_getElem? (i := 5) (by decide +kernel))) hK hP hD hS 9 4 1 1 rfl rfl rfl rfl rfl (by decide) (by decide) (by decide) (by decide) (by decide) (fun _ _ => rfl) (Nat.le_of_ble_eq_true rfl) (Nat.le_of_ble_eq_true rfl) dX3_copyFrom_57 (fun H locs hP hD hS => ?_)
  have hP : va_P (dC, dI) vwCl [(xa62, .inr (3, [.ref xa3, .ref xa45, .ref xa63, .ref xa64, .ref xa65, .ref xa66, .int 0, .int (-1), .int 0])), (xa63, .inl (kI, 8, .inl (va_cpy (fun _ => 0) (fun _ => 0) 0 0 8))), (xa64, .inl (kI, 8, .inl (va_cpy (fun _ => 0) (fun _ => 0) 0 0 8))), (xa65, .inl (kI, 8, .inl (va_cpy (fun _ => 0) (fun _ => 0) 0 0 8))), (xa66, .inl (kI, 8, .inl (va_cpy (fun _ => 0) (fun _ => 0) 0 0 8))), (xa47, .inr (3, [.ref xa3, .ref xa45, .ref xa48, .ref xa49, .ref xa50, .ref xa51, .int 0, .int (-1), .int 0])), (xa48, .inl (kI, 8, .inl (fun _ => 0))), (xa49, .inl (kI, 8, .inl (fun _ => 0))), (xa50, .inl (kI, 8, .inl (fun _ => 0))), (xa51, .inl (kI, 8, .inl (fun _ => 0)))] H := hP
  have hD : va_D A [(xa62, .inr (3, [.ref xa3, .ref xa45, .ref xa63, .ref xa64, .ref xa65, .ref xa66, .int 0, .int (-1), .int 0])), (xa63, .inl (kI, 8, .inl (va_cpy (fun _ => 0) (fun _ => 0) 0 0 8))), (xa64, .inl (kI, 8, .inl (va_cpy (fun _ => 0) (fun _ => 0) 0 0 8))), (xa65, .inl (kI, 8, .inl (va_cpy (fun _ => 0) (fun _ => 0) 0 0 8))), (xa66, .inl (kI, 8, .inl (va_cpy (fun _ => 0) (fun _ => 0) 0 0 8))), (xa47, .inr (3, [.ref xa3, .ref xa45, .ref xa48, .ref xa49, .ref xa50, .ref xa51, .int 0, .int (-1), .int 0])), (xa48, .inl (kI, 8, .inl (fun _ => 0))), (xa49, .inl (kI, 8, .inl (fun _ => 0))), (xa50, .inl (kI, 8, .inl (fun _ => 0))), (xa51, .inl (kI, 8, .inl (fun _ => 0)))] := hD
  refine lv_aload_n hx hb dX3_copyFrom_60 rfl (lv_at hl 0 rfl) ?_
  refine lv_aload_n hx hb dX3_copyFrom_61 rfl (lv_at hl 1 rfl) ?_
  refine va_get (D := (dC, dI)) (ci := 3) (v := .int 0) (C := RX3) (T := TX3) (N := 9) hx hb hts hin3 hown hK hP 5 rfl rfl 6 (by decide) (hts (.fieldLink RX3 24 "PathProber$Notebook" "size" "I") (List.mem_of_getElem? (i := 9) (by decide +kernel))) (fun _ h9 => h9) rfl dX3_copyFrom_62 ?_
  refine va_put (D := (dC, dI)) (ci := 3) (v := .int 0) (ty := .int) (C := RX3) (T := TX3) (N := 9) hx hb hts hin3 tyX3 tyX3_ok nmX3 hown hK hP hD hS 0 rfl rfl 6 (by decide) (hts (.fieldLink RX3 24 "PathProber$Notebook" "size" "I") (List.mem_of_getElem? (i := 9) (by decide +kernel))) (fun _ h9 => h9) rfl (by decide +kernel) rfl rfl (Nat.le_of_ble_eq_true rfl) dX3_copyFrom_65 (fun H locs hP hD hS => ?_)
  have hP : va_P (dC, dI) vwCl [(xa62, .inr (3, [.ref xa3, .ref xa45, .ref xa63, .ref xa64, .ref xa65, .ref xa66, .int 0, .int (-1), .int 0])), (xa63, .inl (kI, 8, .inl (va_cpy (fun _ => 0) (fun _ => 0) 0 0 8))), (xa64, .inl (kI, 8, .inl (va_cpy (fun _ => 0) (fun _ => 0) 0 0 8))), (xa65, .inl (kI, 8, .inl (va_cpy (fun _ => 0) (fun _ => 0) 0 0 8))), (xa66, .inl (kI, 8, .inl (va_cpy (fun _ => 0) (fun _ => 0) 0 0 8))), (xa47, .inr (3, [.ref xa3, .ref xa45, .ref xa48, .ref xa49, .ref xa50, .ref xa51, .int 0, .int (-1), .int 0])), (xa48, .inl (kI, 8, .inl (fun _ => 0))), (xa49, .inl (kI, 8, .inl (fun _ => 0))), (xa50, .inl (kI, 8, .inl (fun _ => 0))), (xa51, .inl (kI, 8, .inl (fun _ => 0)))] H := hP
  have hD : va_D A [(xa62, .inr (3, [.ref xa3, .ref xa45, .ref xa63, .ref xa64, .ref xa65, .ref xa66, .int 0, .int (-1), .int 0])), (xa63, .inl (kI, 8, .inl (va_cpy (fun _ => 0) (fun _ => 0) 0 0 8))), (xa64, .inl (kI, 8, .inl (va_cpy (fun _ => 0) (fun _ => 0) 0 0 8))), (xa65, .inl (kI, 8, .inl (va_cpy (fun _ => 0) (fun _ => 0) 0 0 8))), (xa66, .inl (kI, 8, .inl (va_cpy (fun _ => 0) (fun _ => 0) 0 0 8))), (xa47, .inr (3, [.ref xa3, .ref xa45, .ref xa48, .ref xa49, .ref xa50, .ref xa51, .int 0, .int (-1), .int 0])), (xa48, .inl (kI, 8, .inl (fun _ => 0))), (xa49, .inl (kI, 8, .inl (fun _ => 0))), (xa50, .inl (kI, 8, .inl (fun _ => 0))), (xa51, .inl (kI, 8, .inl (fun _ => 0)))] := hD
  have hP9 := hP.sub (ws' := [(xa62, .inr (3, [.ref xa3, .ref xa45, .ref xa63, .ref xa64, .ref xa65, .ref xa66, .int 0, .int (-1), .int 0])), (xa63, .inl (kI, 8, .inl (va_cpy (fun _ => 0) (fun _ => 0) 0 0 8))), (xa64, .inl (kI, 8, .inl (va_cpy (fun _ => 0) (fun _ => 0) 0 0 8))), (xa65, .inl (kI, 8, .inl (va_cpy (fun _ => 0) (fun _ => 0) 0 0 8))), (xa66, .inl (kI, 8, .inl (va_cpy (fun _ => 0) (fun _ => 0) 0 0 8))), (xa47, .inr (3, [.ref xa3, .ref xa45, .ref xa48, .ref xa49, .ref xa50, .ref xa51, .int 0, .int (-1), .int 0])), (xa48, .inl (kI, 8, .inl (fun _ => 0))), (xa49, .inl (kI, 8, .inl (fun _ => 0))), (xa50, .inl (kI, 8, .inl (fun _ => 0))), (xa51, .inl (kI, 8, .inl (fun _ => 0)))]) [0, 1, 2, 3, 4, 5, 6, 7, 8, 9] rfl
  have hD9 := hD.sub (ws' := [(xa62, .inr (3, [.ref xa3, .ref xa45, .ref xa63, .ref xa64, .ref xa65, .ref xa66, .int 0, .int (-1), .int 0])), (xa63, .inl (kI, 8, .inl (va_cpy (fun _ => 0) (fun _ => 0) 0 0 8))), (xa64, .inl (kI, 8, .inl (va_cpy (fun _ => 0) (fun _ => 0) 0 0 8))), (xa65, .inl (kI, 8, .inl (va_cpy (fun _ => 0) (fun _ => 0) 0 0 8))), (xa66, .inl (kI, 8, .inl (va_cpy (fun _ => 0) (fun _ => 0) 0 0 8))), (xa47, .inr (3, [.ref xa3, .ref xa45, .ref xa48, .ref xa49, .ref xa50, .ref xa51, .int 0, .int (-1), .int 0])), (xa48, .inl (kI, 8, .inl (fun _ => 0))), (xa49, .inl (kI, 8, .inl (fun _ => 0))), (xa50, .inl (kI, 8, .inl (fun _ => 0))), (xa51, .inl (kI, 8, .inl (fun _ => 0)))]) [0, 1, 2, 3, 4, 5, 6, 7, 8, 9] (by decide) rfl
  exact W.vret hx hb hr (fun t ht hW => ⟨⟨(), rfl, trivial, va_cpy (fun _ => 0) (fun _ => 0) 0 0 8, va_cpy (fun _ => 0) (fun _ => 0) 0 0 8, va_cpy (fun _ => 0) (fun _ => 0) 0 0 8, va_cpy (fun _ => 0) (fun _ => 0) 0 0 8, by rw [ht]; exact hP9, hD9⟩, hS.F ht⟩) hS.2.2 dX3_copyFrom_68
def rm_k10_loss_in : Room := { frames := 4, cells := 5, slots := 160, locals := 102 }
set_option maxHeartbeats 4000000 in
set_option maxRecDepth 100000 in
theorem k10_loss_in (l : Launch) (dC : Nat → ClassId) (dI : Nat → Nat → Nat) (kB kI kJ kZ kC kS : ClassId) (sz : Nat) (h0 : Nat) (xa1 : Nat) (xa3 : Nat) (xa15 : Nat) (xa27 : Nat) (xa28 : Nat) (xa33 : Nat) (xa38 : Nat) (xa41 : Nat) (xa45 : Nat) (xa46 : Nat) (xa47 : Nat) (xa52 : Nat) (xa54 : Nat) (xa55 : Nat) (xa60 : Nat) (xa62 : Nat) (xa67 : Nat) (xa53 : Nat) (xa29 : Nat) (xa30 : Nat) (xa31 : Nat) (xa32 : Nat) (p0 : Int32) (hc0 : 1 ≤ p0) (hc1 : p0 ≤ 50) : Met l yX10_loss wsX10_loss rm_k10_loss_in (va_Pc [.ref h0, .int p0] (fun U => U.heap.size = sz ∧ va_P (dC, dI) vwCl [(h0, .inr (10, [.ref xa1, .ref xa3, .ref xa15, .ref xa27, .ref xa28, .ref xa33, .ref xa38, .ref xa41, .ref xa45, .ref xa46, .ref xa47, .ref xa52, .ref xa54, .int 0, .ref xa55, .ref xa60, .ref xa62, .ref xa67, .int (-1)])), (xa52, .inr (1, [.ref xa53, .int 0, .int 0])), (xa53, .inl (kC, 40, .inr (.inr (.inr (.inr (fun _ => none)))))), (xa28, .inr (0, [.ref xa29, .ref xa30, .ref xa31, .ref xa32, .int 5, .int 0, .int 0, .int 0, .int 0, .int 0])), (xa29, .inl (kJ, 96, .inr (.inl (fun _ => 0)))), (xa30, .inl (kI, 30, .inl (fun _ => 0))), (xa31, .inl (kI, 12, .inl (fun _ => 0))), (xa32, .inl (kI, 12, .inl (fun _ => 0)))] U.heap ∧ kE dC dI kB kI kJ kZ kC kS U ∧ va_D (fun _ => True) [(h0, .inr (10, [.ref xa1, .ref xa3, .ref xa15, .ref xa27, .ref xa28, .ref xa33, .ref xa38, .ref xa41, .ref xa45, .ref xa46, .ref xa47, .ref xa52, .ref xa54, .int 0, .ref xa55, .ref xa60, .ref xa62, .ref xa67, .int (-1)])), (xa52, .inr (1, [.ref xa53, .int 0, .int 0])), (xa53, .inl (kC, 40, .inr (.inr (.inr (.inr (fun _ => none)))))), (xa28, .inr (0, [.ref xa29, .ref xa30, .ref xa31, .ref xa32, .int 5, .int 0, .int 0, .int 0, .int 0, .int 0])), (xa29, .inl (kJ, 96, .inr (.inl (fun _ => 0)))), (xa30, .inl (kI, 30, .inl (fun _ => 0))), (xa31, .inl (kI, 12, .inl (fun _ => 0))), (xa32, .inl (kI, 12, .inl (fun _ => 0)))])) (va_Qi (fun (r : Int32) (_ : Unit) => r = 5) (fun _ t => va_P (dC, dI) vwCl [] t.heap ∧ va_D (va_A [(h0, .inr (10, [.ref xa1, .ref xa3, .ref xa15, .ref xa27, .ref xa28, .ref xa33, .ref xa38, .ref xa41, .ref xa45, .ref xa46, .ref xa47, .ref xa52, .ref xa54, .int 0, .ref xa55, .ref xa60, .ref xa62, .ref xa67, .int (-1)])), (xa52, .inr (1, [.ref xa53, .int 0, .int 0])), (xa53, .inl (kC, 40, .inr (.inr (.inr (.inr (fun _ => none)))))), (xa28, .inr (0, [.ref xa29, .ref xa30, .ref xa31, .ref xa32, .int 5, .int 0, .int 0, .int 0, .int 0, .int 0])), (xa29, .inl (kJ, 96, .inr (.inl (fun _ => 0)))), (xa30, .inl (kI, 30, .inl (fun _ => 0))), (xa31, .inl (kI, 12, .inl (fun _ => 0))), (xa32, .inl (kI, 12, .inl (fun _ => 0)))] sz) []) (va_A [(h0, .inr (10, [.ref xa1, .ref xa3, .ref xa15, .ref xa27, .ref xa28, .ref xa33, .ref xa38, .ref xa41, .ref xa45, .ref xa46, .ref xa47, .ref xa52, .ref xa54, .int 0, .ref xa55, .ref xa60, .ref xa62, .ref xa67, .int (-1)])), (xa52, .inr (1, [.ref xa53, .int 0, .int 0])), (xa53, .inl (kC, 40, .inr (.inr (.inr (.inr (fun _ => none)))))), (xa28, .inr (0, [.ref xa29, .ref xa30, .ref xa31, .ref xa32, .int 5, .int 0, .int 0, .int 0, .int 0, .int 0])), (xa29, .inl (kJ, 96, .inr (.inl (fun _ => 0)))), (xa30, .inl (kI, 30, .inl (fun _ => 0))), (xa31, .inl (kI, 12, .inl (fun _ => 0))), (xa32, .inl (kI, 12, .inl (fun _ => 0)))] sz)) 5 160 (va_A [(h0, .inr (10, [.ref xa1, .ref xa3, .ref xa15, .ref xa27, .ref xa28, .ref xa33, .ref xa38, .ref xa41, .ref xa45, .ref xa46, .ref xa47, .ref xa52, .ref xa54, .int 0, .ref xa55, .ref xa60, .ref xa62, .ref xa67, .int (-1)])), (xa52, .inr (1, [.ref xa53, .int 0, .int 0])), (xa53, .inl (kC, 40, .inr (.inr (.inr (.inr (fun _ => none)))))), (xa28, .inr (0, [.ref xa29, .ref xa30, .ref xa31, .ref xa32, .int 5, .int 0, .int 0, .int 0, .int 0, .int 0])), (xa29, .inl (kJ, 96, .inr (.inl (fun _ => 0)))), (xa30, .inl (kI, 30, .inl (fun _ => 0))), (xa31, .inl (kI, 12, .inl (fun _ => 0))), (xa32, .inl (kI, 12, .inl (fun _ => 0)))] sz) := by
  refine Met.ofW (cc := cX10_loss) (maxL := 3) (ret := (some .int)) (by decide) rfl ?_
  intro p e s m args0 below meth c s₁ B hml hv
  obtain ⟨hargs, hsz, hP, hE, hD0⟩ := hv
  have hx := B.exec
  have hb := B.bytes
  have hr := B.returns
  have hts := atoms_spec (ws := wsX10_loss) B.pre
  have hown : s.vm.findClass RX10 = some m.cls := findClass_of_methodNamed B.named
  have hlocks := B.notSynchronized
  have hK := hE.1
  have hin10 : ∀ w ∈ wsX100, w ∈ wsX10_loss := fun _ h9 => List.mem_cons_of_mem _ (List.mem_append_left _ (List.mem_append_left _ (List.mem_append_right _ h9)))
  have hin0 : ∀ w ∈ wsX00, w ∈ wsX10_loss := fun _ h9 => List.mem_cons_of_mem _ (List.mem_append_left _ (List.mem_append_right _ h9))
  have hin1 : ∀ w ∈ wsX10, w ∈ wsX10_loss := fun _ h9 => List.mem_cons_of_mem _ (List.mem_append_right _ h9)
  subst hsz
  have hD := hD0.self (sz := s.heap.size)
  generalize hAe : va_A [(h0, .inr (10, [.ref xa1, .ref xa3, .ref xa15, .ref xa27, .ref xa28, .ref xa33, .ref xa38, .ref xa41, .ref xa45, .ref xa46, .ref xa47, .ref xa52, .ref xa54, .int 0, .ref xa55, .ref xa60, .ref xa62, .ref xa67, .int (-1)])), (xa52, .inr (1, [.ref xa53, .int 0, .int 0])), (xa53, .inl (kC, 40, .inr (.inr (.inr (.inr (fun _ => none)))))), (xa28, .inr (0, [.ref xa29, .ref xa30, .ref xa31, .ref xa32, .int 5, .int 0, .int 0, .int 0, .int 0, .int 0])), (xa29, .inl (kJ, 96, .inr (.inl (fun _ => 0)))), (xa30, .inl (kI, 30, .inl (fun _ => 0))), (xa31, .inl (kI, 12, .inl (fun _ => 0))), (xa32, .inl (kI, 12, .inl (fun _ => 0)))] s.heap.size = A at hD ⊢
  have hA : ∀ q : Nat, s.heap.size ≤ q → A q := fun q h => by rw [← hAe]; exact Or.inr h
  have hS : va_S A s.heap s.heap [] := va_S.rf
  have hP : va_P (dC, dI) vwCl [(h0, .inr (10, [.ref xa1, .ref xa3, .ref xa15, .ref xa27, .ref xa28, .ref xa33, .ref xa38, .ref xa41, .ref xa45, .ref xa46, .ref xa47, .ref xa52, .ref xa54, .int 0, .ref xa55, .ref xa60, .ref xa62, .ref xa67, .int (-1)])), (xa52, .inr (1, [.ref xa53, .int 0, .int 0])), (xa53, .inl (kC, 40, .inr (.inr (.inr (.inr (fun _ => none)))))), (xa28, .inr (0, [.ref xa29, .ref xa30, .ref xa31, .ref xa32, .int 5, .int 0, .int 0, .int 0, .int 0, .int 0])), (xa29, .inl (kJ, 96, .inr (.inl (fun _ => 0)))), (xa30, .inl (kI, 30, .inl (fun _ => 0))), (xa31, .inl (kI, 12, .inl (fun _ => 0))), (xa32, .inl (kI, 12, .inl (fun _ => 0)))] s.heap := hP
  have hl := lv_entry ([.ref h0, .int p0]) (n := 3) (Nat.le_of_ble_eq_true rfl)
  have hla : entryFrame m args0 3 = entryFrame m ([.ref h0, .int p0] : List Value).toArray 3 := by rw [hargs]
  rw [hla, lg_entry_eq]
  generalize (lg_sl ([.ref h0, .int p0]) ++ List.replicate (3 - (lg_sl ([.ref h0, .int p0])).length) Slot.unset).toArray = ls at hl ⊢
  have hl : lv_has ls 3 [(0, .ref h0), (1, .int p0)] := hl
  refine lv_iload_n hx hb dX10_loss_0 rfl (lv_at hl 1 rfl) ?_
  refine lv_iconst (v := 1) hx hb dX10_loss_1 (by decide) ?_
  refine lv_icmp_lt (tgt := 11) hx hb dX10_loss_2 (by decide) (fun c9 => absurd c9 (by have hhc0 := hc0; have hhc1 := hc1; simp only [Int32.lt_iff_toInt_lt, Int32.le_iff_toInt_le, ← Int32.toInt_inj, (by decide : (0 : Int32).toInt = 0), (by decide : (1 : Int32).toInt = 1), (by decide : (50 : Int32).toInt = 50)] at hhc0 hhc1 ⊢; omega)) (fun _ => ?_)
  refine lv_iload_n hx hb dX10_loss_5 rfl (lv_at hl 1 rfl) ?_
  refine lv_bipush (v := 50) hx hb dX10_loss_6 (by decide) ?_
  refine lv_icmp_le (tgt := 16) hx hb dX10_loss_8 (by decide) (fun _ => ?_) (fun c9 => absurd (by have hhc0 := hc0; have hhc1 := hc1; simp only [Int32.lt_iff_toInt_lt, Int32.le_iff_toInt_le, ← Int32.toInt_inj, (by decide : (0 : Int32).toInt = 0), (by decide : (1 : Int32).toInt = 1), (by decide : (50 : Int32).toInt = 50)] at hhc0 hhc1 ⊢; omega) c9)
  refine lv_aload_n hx hb dX10_loss_16 rfl (lv_at hl 0 rfl) ?_
  refine va_get (D := (dC, dI)) (ci := 10) (v := .ref xa52) (C := RX10) (T := TX10) (N := 19) hx hb hts hin10 hown hK hP 0 rfl rfl 11 (by decide) (hts (.fieldLink RX10 89 "PathProber" "history" "LPathProber$History;") (List.mem_of_getElem? (i := 1) (by decide +kernel))) (fun _ h9 => h9) rfl dX10_loss_17 ?_
  refine lv_aload_n hx hb dX10_loss_20 rfl (lv_at hl 0 rfl) ?_
  refine va_get (D := (dC, dI)) (ci := 10) (v := .ref xa28) (C := RX10) (T := TX10) (N := 19) hx hb hts hin10 hown hK hP 0 rfl rfl 4 (by decide) (hts (.fieldLink RX10 38 "PathProber" "now" "LPathProber$Condition;") (List.mem_of_getElem? (i := 2) (by decide +kernel))) (fun _ h9 => h9) rfl dX10_loss_21 ?_
  have hPc := hP.sub (ws' := [(xa52, .inr (1, [.ref xa53, .int 0, .int 0])), (xa53, .inl (kC, 40, .inr (.inr (.inr (.inr (fun _ => none)))))), (xa28, .inr (0, [.ref xa29, .ref xa30, .ref xa31, .ref xa32, .int 5, .int 0, .int 0, .int 0, .int 0, .int 0])), (xa29, .inl (kJ, 96, .inr (.inl (fun _ => 0)))), (xa30, .inl (kI, 30, .inl (fun _ => 0))), (xa31, .inl (kI, 12, .inl (fun _ => 0))), (xa32, .inl (kI, 12, .inl (fun _ => 0)))]) [1, 2, 3, 4, 5, 6, 7] rfl
  have hDc := hD.sub (ws' := [(xa52, .inr (1, [.ref xa53, .int 0, .int 0])), (xa53, .inl (kC, 40, .inr (.inr (.inr (.inr (fun _ => none)))))), (xa28, .inr (0, [.ref xa29, .ref xa30, .ref xa31, .ref xa32, .int 5, .int 0, .int 0, .int 0, .int 0, .int 0])), (xa29, .inl (kJ, 96, .inr (.inl (fun _ => 0)))), (xa30, .inl (kI, 30, .inl (fun _ => 0))), (xa31, .inl (kI, 12, .inl (fun _ => 0))), (xa32, .inl (kI, 12, .inl (fun _ => 0)))]) [1, 2, 3, 4, 5, 6, 7] (by decide) rfl
  have hFc := va_free (wc := [(xa52, .inr (1, [.ref xa53, .int 0, .int 0])), (xa53, .inl (kC, 40, .inr (.inr (.inr (.inr (fun _ => none)))))), (xa28, .inr (0, [.ref xa29, .ref xa30, .ref xa31, .ref xa32, .int 5, .int 0, .int 0, .int 0, .int 0, .int 0])), (xa29, .inl (kJ, 96, .inr (.inl (fun _ => 0)))), (xa30, .inl (kI, 30, .inl (fun _ => 0))), (xa31, .inl (kI, 12, .inl (fun _ => 0))), (xa32, .inl (kI, 12, .inl (fun _ => 0)))]) hD hS hA [1, 2, 3, 4, 5, 6, 7] rfl
  refine va_callv (va_runV (As := [.ref xa28]) (rest := []) ⟨hx, hb, hml, hown, hts⟩ (k1_keep l dC dI kB kI kJ kZ kC kS s.heap.size xa52 xa53 xa28 xa29 xa30 xa31 xa32) (cwV 1 hts gX10_loss_X1_keep rfl rfl rfl (by decide +kernel) ⟨Nat.le_of_ble_eq_true rfl, Nat.le_of_ble_eq_true rfl⟩) ⟨fun a U g mk q => by obtain ⟨q0, q1, qP, qE, qD⟩ := q; exact ⟨q0, q1, qP, kE_call qE, qD⟩, va_recv hK hP (ci := 1) (q0 := 1) rfl rfl, fun U hU hW => ⟨rfl, by rw [hU], by rw [hU]; exact hPc, kE_warm hW hE, hDc.weaken (fun _ _ _ _ => trivial)⟩⟩ rfl rfl hl.1 rfl (lv_room (Nat.le_of_ble_eq_true rfl)) dX10_loss_24 ⟨Nat.le_of_ble_eq_true rfl, Nat.le_of_ble_eq_true rfl⟩) hS (fun q _ h => hFc q h) hFc (fun u t H1 locs ht hvm w2 hB hz1 hk1 hS => ?_)
  obtain ⟨g_3, hP1, hD1⟩ := hB
  rw [ht] at hP1
  try dsimp only at w2
  obtain ⟨hP, hD⟩ := va_join (wr := [(h0, .inr (10, [.ref xa1, .ref xa3, .ref xa15, .ref xa27, .ref xa28, .ref xa33, .ref xa38, .ref xa41, .ref xa45, .ref xa46, .ref xa47, .ref xa52, .ref xa54, .int 0, .ref xa55, .ref xa60, .ref xa62, .ref xa67, .int (-1)]))]) (w1 := [(xa52, .inr (1, [.ref xa53, .int 0, .int 1])), (xa53, .inl (kC, 40, .inr (.inr (.inr (.inr g_3))))), (xa28, .inr (0, [.ref xa29, .ref xa30, .ref xa31, .ref xa32, .int 5, .int 0, .int 0, .int 0, .int 0, .int 0])), (xa29, .inl (kJ, 96, .inr (.inl (fun _ => 0)))), (xa30, .inl (kI, 30, .inl (fun _ => 0))), (xa31, .inl (kI, 12, .inl (fun _ => 0))), (xa32, .inl (kI, 12, .inl (fun _ => 0)))]) hP hD [1, 2, 3, 4, 5, 6, 7] [0] rfl rfl (by decide) (by decide) hk1 hFc hP1 hD1
  generalize H1 = H at hP hS ⊢
  have hP : va_P (dC, dI) vwCl [(h0, .inr (10, [.ref xa1, .ref xa3, .ref xa15, .ref xa27, .ref xa28, .ref xa33, .ref xa38, .ref xa41, .ref xa45, .ref xa46, .ref xa47, .ref xa52, .ref xa54, .int 0, .ref xa55, .ref xa60, .ref xa62, .ref xa67, .int (-1)])), (xa52, .inr (1, [.ref xa53, .int 0, .int 1])), (xa53, .inl (kC, 40, .inr (.inr (.inr (.inr g_3))))), (xa28, .inr (0, [.ref xa29, .ref xa30, .ref xa31, .ref xa32, .int 5, .int 0, .int 0, .int 0, .int 0, .int 0])), (xa29, .inl (kJ, 96, .inr (.inl (fun _ => 0)))), (xa30, .inl (kI, 30, .inl (fun _ => 0))), (xa31, .inl (kI, 12, .inl (fun _ => 0))), (xa32, .inl (kI, 12, .inl (fun _ => 0)))] H := hP
  have hD : va_D A [(h0, .inr (10, [.ref xa1, .ref xa3, .ref xa15, .ref xa27, .ref xa28, .ref xa33, .ref xa38, .ref xa41, .ref xa45, .ref xa46, .ref xa47, .ref xa52, .ref xa54, .int 0, .ref xa55, .ref xa60, .ref xa62, .ref xa67, .int (-1)])), (xa52, .inr (1, [.ref xa53, .int 0, .int 1])), (xa53, .inl (kC, 40, .inr (.inr (.inr (.inr g_3))))), (xa28, .inr (0, [.ref xa29, .ref xa30, .ref xa31, .ref xa32, .int 5, .int 0, .int 0, .int 0, .int 0, .int 0])), (xa29, .inl (kJ, 96, .inr (.inl (fun _ => 0)))), (xa30, .inl (kI, 30, .inl (fun _ => 0))), (xa31, .inl (kI, 12, .inl (fun _ => 0))), (xa32, .inl (kI, 12, .inl (fun _ => 0)))] := hD
  refine W.widen (k := 5) (n := 160) (Nat.le_of_ble_eq_true rfl) (Nat.le_of_ble_eq_true rfl) ?_
  refine lv_aload_n hx hb dX10_loss_27 rfl (lv_at hl 0 rfl) ?_
  refine va_get (D := (dC, dI)) (ci := 10) (v := .ref xa28) (C := RX10) (T := TX10) (N := 19) hx hb hts hin10 hown hK hP 0 rfl rfl 4 (by decide) (hts (.fieldLink RX10 38 "PathProber" "now" "LPathProber$Condition;") (List.mem_of_getElem? (i := 2) (by decide +kernel))) (fun _ h9 => h9) rfl dX10_loss_28 ?_
  refine va_get (D := (dC, dI)) (ci := 0) (v := .int 5) (C := RX0) (T := TX0) (N := 10) hx hb hts hin0 hown hK hP 3 rfl rfl 4 (by decide) (hts (.fieldLink RX10 159 "PathProber$Condition" "loss" "I") (List.mem_of_getElem? (i := 3) (by decide +kernel))) (fun _ h9 => h9) rfl dX10_loss_31 ?_
  refine lv_istore_n (lv' := [(2, .int 5), (0, .ref h0), (1, .int p0)]) hx hb dX10_loss_34 rfl hl (by decide) rfl (fun ls hl => ?_)
  refine lv_aload_n hx hb dX10_loss_35 rfl (lv_at hl 1 rfl) ?_
  refine va_get (D := (dC, dI)) (ci := 10) (v := .ref xa28) (C := RX10) (T := TX10) (N := 19) hx hb hts hin10 hown hK hP 0 rfl rfl 4 (by decide) (hts (.fieldLink RX10 38 "PathProber" "now" "LPathProber$Condition;") (List.mem_of_getElem? (i := 2) (by decide +kernel))) (fun _ h9 => h9) rfl dX10_loss_36 ?_
  refine lv_iload_n hx hb dX10_loss_39 rfl (lv_at hl 2 rfl) ?_
  refine va_put (D := (dC, dI)) (ci := 0) (v := .int p0) (ty := .int) (C := RX0) (T := TX0) (N := 10) hx hb hts hin0 tyX0 tyX0_ok nmX0 hown hK hP hD hS 3 rfl rfl 4 (by decide) (hts (.fieldLink RX10 159 "PathProber$Condition" "loss" "I") (List.mem_of_getElem? (i := 3) (by decide +kernel))) (fun _ h9 => h9) rfl (by decide +kernel) rfl rfl (Nat.le_of_ble_eq_true rfl) dX10_loss_40 (fun H locs hP hD hS => ?_)
  have hP : va_P (dC, dI) vwCl [(h0, .inr (10, [.ref xa1, .ref xa3, .ref xa15, .ref xa27, .ref xa28, .ref xa33, .ref xa38, .ref xa41, .ref xa45, .ref xa46, .ref xa47, .ref xa52, .ref xa54, .int 0, .ref xa55, .ref xa60, .ref xa62, .ref xa67, .int (-1)])), (xa52, .inr (1, [.ref xa53, .int 0, .int 1])), (xa53, .inl (kC, 40, .inr (.inr (.inr (.inr g_3))))), (xa28, .inr (0, [.ref xa29, .ref xa30, .ref xa31, .ref xa32, .int p0, .int 0, .int 0, .int 0, .int 0, .int 0])), (xa29, .inl (kJ, 96, .inr (.inl (fun _ => 0)))), (xa30, .inl (kI, 30, .inl (fun _ => 0))), (xa31, .inl (kI, 12, .inl (fun _ => 0))), (xa32, .inl (kI, 12, .inl (fun _ => 0)))] H := hP
  have hD : va_D A [(h0, .inr (10, [.ref xa1, .ref xa3, .ref xa15, .ref xa27, .ref xa28, .ref xa33, .ref xa38, .ref xa41, .ref xa45, .ref xa46, .ref xa47, .ref xa52, .ref xa54, .int 0, .ref xa55, .ref xa60, .ref xa62, .ref xa67, .int (-1)])), (xa52, .inr (1, [.ref xa53, .int 0, .int 1])), (xa53, .inl (kC, 40, .inr (.inr (.inr (.inr g_3))))), (xa28, .inr (0, [.ref xa29, .ref xa30, .ref xa31, .ref xa32, .int p0, .int 0, .int 0, .int 0, .int 0, .int 0])), (xa29, .inl (kJ, 96, .inr (.inl (fun _ => 0)))), (xa30, .inl (kI, 30, .inl (fun _ => 0))), (xa31, .inl (kI, 12, .inl (fun _ => 0))), (xa32, .inl (kI, 12, .inl (fun _ => 0)))] := hD
  refine lv_iload_n hx hb dX10_loss_43 rfl (lv_at hl 0 rfl) ?_
  have hP9 := hP.sub (ws' := []) [] rfl
  have hD9 := hD.sub (ws' := []) [] (by decide) rfl
  exact W.iret (v := 5) hx hb hr (fun t ht hW => ⟨⟨5, (), rfl, rfl, by rw [ht]; exact hP9, hD9⟩, hS.F ht⟩) hS.2.2 dX10_loss_44
def rm_k10_loss_lo : Room := { frames := 1, cells := 0, slots := 0, locals := 20 }
set_option maxHeartbeats 4000000 in
set_option maxRecDepth 100000 in
theorem k10_loss_lo (l : Launch) (dC : Nat → ClassId) (dI : Nat → Nat → Nat) (kB kI kJ kZ kC kS : ClassId) (sz : Nat) (h0 : Nat) (xa1 : Nat) (xa3 : Nat) (xa15 : Nat) (xa27 : Nat) (xa28 : Nat) (xa33 : Nat) (xa38 : Nat) (xa41 : Nat) (xa45 : Nat) (xa46 : Nat) (xa47 : Nat) (xa52 : Nat) (xa54 : Nat) (xa55 : Nat) (xa60 : Nat) (xa62 : Nat) (xa67 : Nat) (p0 : Int32) (hc0 : p0 < 1) : Met l yX10_loss wsX10_loss rm_k10_loss_lo (va_Pc [.ref h0, .int p0] (fun U => U.heap.size = sz ∧ va_P (dC, dI) vwCl [(h0, .inr (10, [.ref xa1, .ref xa3, .ref xa15, .ref xa27, .ref xa28, .ref xa33, .ref xa38, .ref xa41, .ref xa45, .ref xa46, .ref xa47, .ref xa52, .ref xa54, .int 0, .ref xa55, .ref xa60, .ref xa62, .ref xa67, .int (-1)])), (xa54, .inl (kI, 3, .inl (fun _ => 0)))] U.heap ∧ kE dC dI kB kI kJ kZ kC kS U ∧ va_D (fun _ => True) [(h0, .inr (10, [.ref xa1, .ref xa3, .ref xa15, .ref xa27, .ref xa28, .ref xa33, .ref xa38, .ref xa41, .ref xa45, .ref xa46, .ref xa47, .ref xa52, .ref xa54, .int 0, .ref xa55, .ref xa60, .ref xa62, .ref xa67, .int (-1)])), (xa54, .inl (kI, 3, .inl (fun _ => 0)))])) (va_Qi (fun (r : Int32) (_ : Unit) => r = -1) (fun _ t => va_P (dC, dI) vwCl [] t.heap ∧ va_D (va_A [(h0, .inr (10, [.ref xa1, .ref xa3, .ref xa15, .ref xa27, .ref xa28, .ref xa33, .ref xa38, .ref xa41, .ref xa45, .ref xa46, .ref xa47, .ref xa52, .ref xa54, .int 0, .ref xa55, .ref xa60, .ref xa62, .ref xa67, .int (-1)])), (xa54, .inl (kI, 3, .inl (fun _ => 0)))] sz) []) (va_A [(h0, .inr (10, [.ref xa1, .ref xa3, .ref xa15, .ref xa27, .ref xa28, .ref xa33, .ref xa38, .ref xa41, .ref xa45, .ref xa46, .ref xa47, .ref xa52, .ref xa54, .int 0, .ref xa55, .ref xa60, .ref xa62, .ref xa67, .int (-1)])), (xa54, .inl (kI, 3, .inl (fun _ => 0)))] sz)) 0 0 (va_A [(h0, .inr (10, [.ref xa1, .ref xa3, .ref xa15, .ref xa27, .ref xa28, .ref xa33, .ref xa38, .ref xa41, .ref xa45, .ref xa46, .ref xa47, .ref xa52, .ref xa54, .int 0, .ref xa55, .ref xa60, .ref xa62, .ref xa67, .int (-1)])), (xa54, .inl (kI, 3, .inl (fun _ => 0)))] sz) := by
  refine Met.ofW (cc := cX10_loss) (maxL := 3) (ret := (some .int)) (by decide) rfl ?_
  intro p e s m args0 below meth c s₁ B hml hv
  obtain ⟨hargs, hsz, hP, hE, hD0⟩ := hv
  have hx := B.exec
  have hb := B.bytes
  have hr := B.returns
  have hts := atoms_spec (ws := wsX10_loss) B.pre
  have hown : s.vm.findClass RX10 = some m.cls := findClass_of_methodNamed B.named
  have hlocks := B.notSynchronized
  have hK := hE.1
  have hin10 : ∀ w ∈ wsX100, w ∈ wsX10_loss := fun _ h9 => List.mem_cons_of_mem _ (List.mem_append_left _ (List.mem_append_left _ (List.mem_append_right _ h9)))
  have hin0 : ∀ w ∈ wsX00, w ∈ wsX10_loss := fun _ h9 => List.mem_cons_of_mem _ (List.mem_append_left _ (List.mem_append_right _ h9))
  have hin1 : ∀ w ∈ wsX10, w ∈ wsX10_loss := fun _ h9 => List.mem_cons_of_mem _ (List.mem_append_right _ h9)
  subst hsz
  have hD := hD0.self (sz := s.heap.size)
  generalize hAe : va_A [(h0, .inr (10, [.ref xa1, .ref xa3, .ref xa15, .ref xa27, .ref xa28, .ref xa33, .ref xa38, .ref xa41, .ref xa45, .ref xa46, .ref xa47, .ref xa52, .ref xa54, .int 0, .ref xa55, .ref xa60, .ref xa62, .ref xa67, .int (-1)])), (xa54, .inl (kI, 3, .inl (fun _ => 0)))] s.heap.size = A at hD ⊢
  have hA : ∀ q : Nat, s.heap.size ≤ q → A q := fun q h => by rw [← hAe]; exact Or.inr h
  have hS : va_S A s.heap s.heap [] := va_S.rf
  have hP : va_P (dC, dI) vwCl [(h0, .inr (10, [.ref xa1, .ref xa3, .ref xa15, .ref xa27, .ref xa28, .ref xa33, .ref xa38, .ref xa41, .ref xa45, .ref xa46, .ref xa47, .ref xa52, .ref xa54, .int 0, .ref xa55, .ref xa60, .ref xa62, .ref xa67, .int (-1)])), (xa54, .inl (kI, 3, .inl (fun _ => 0)))] s.heap := hP
  have hl := lv_entry ([.ref h0, .int p0]) (n := 3) (Nat.le_of_ble_eq_true rfl)
  have hla : entryFrame m args0 3 = entryFrame m ([.ref h0, .int p0] : List Value).toArray 3 := by rw [hargs]
  rw [hla, lg_entry_eq]
  generalize (lg_sl ([.ref h0, .int p0]) ++ List.replicate (3 - (lg_sl ([.ref h0, .int p0])).length) Slot.unset).toArray = ls at hl ⊢
  have hl : lv_has ls 3 [(0, .ref h0), (1, .int p0)] := hl
  refine lv_iload_n hx hb dX10_loss_0 rfl (lv_at hl 1 rfl) ?_
  refine lv_iconst (v := 1) hx hb dX10_loss_1 (by decide) ?_
  refine lv_icmp_lt (tgt := 11) hx hb dX10_loss_2 (by decide) (fun _ => ?_) (fun c9 => absurd (by have hhc0 := hc0; simp only [Int32.lt_iff_toInt_lt, Int32.le_iff_toInt_le, ← Int32.toInt_inj, (by decide : (0 : Int32).toInt = 0), (by decide : (1 : Int32).toInt = 1)] at hhc0 ⊢; omega) c9)
  refine lv_aload_n hx hb dX10_loss_11 rfl (lv_at hl 0 rfl) ?_
  have hPc := hP.sub (ws' := [(h0, .inr (10, [.ref xa1, .ref xa3, .ref xa15, .ref xa27, .ref xa28, .ref xa33, .ref xa38, .ref xa41, .ref xa45, .ref xa46, .ref xa47, .ref xa52, .ref xa54, .int 0, .ref xa55, .ref xa60, .ref xa62, .ref xa67, .int (-1)])), (xa54, .inl (kI, 3, .inl (fun _ => 0)))]) [0, 1] rfl
  have hDc := hD.sub (ws' := [(h0, .inr (10, [.ref xa1, .ref xa3, .ref xa15, .ref xa27, .ref xa28, .ref xa33, .ref xa38, .ref xa41, .ref xa45, .ref xa46, .ref xa47, .ref xa52, .ref xa54, .int 0, .ref xa55, .ref xa60, .ref xa62, .ref xa67, .int (-1)])), (xa54, .inl (kI, 3, .inl (fun _ => 0)))]) [0, 1] (by decide) rfl
  have hFc := va_free (wc := [(h0, .inr (10, [.ref xa1, .ref xa3, .ref xa15, .ref xa27, .ref xa28, .ref xa33, .ref xa38, .ref xa41, .ref xa45, .ref xa46, .ref xa47, .ref xa52, .ref xa54, .int 0, .ref xa55, .ref xa60, .ref xa62, .ref xa67, .int (-1)])), (xa54, .inl (kI, 3, .inl (fun _ => 0)))]) hD hS hA [0, 1] rfl
  refine va_calli (va_runV (As := []) (rest := []) ⟨hx, hb, hml, hown, hts⟩ (k10_refuseAct l dC dI kB kI kJ kZ kC kS s.heap.size h0 xa1 xa3 xa15 xa27 xa28 xa33 xa38 xa41 xa45 xa46 xa47 xa52 xa54 xa55 xa60 xa62 xa67) (cwV 0 hts gX10_loss_X10_refuseAct rfl rfl rfl (by decide +kernel) ⟨Nat.le_of_ble_eq_true rfl, Nat.le_of_ble_eq_true rfl⟩) ⟨fun a U g mk q => by obtain ⟨q0, q1, qP, qE, qD⟩ := q; exact ⟨q0, q1, qP, kE_call qE, qD⟩, va_recv hK hP (ci := 10) (q0 := 0) rfl rfl, fun U hU hW => ⟨rfl, by rw [hU], by rw [hU]; exact hPc, kE_warm hW hE, hDc.weaken (fun _ _ _ _ => trivial)⟩⟩ rfl rfl hl.1 rfl (lv_room (Nat.le_of_ble_eq_true rfl)) dX10_loss_12 ⟨Nat.le_of_ble_eq_true rfl, Nat.le_of_ble_eq_true rfl⟩) hS (fun q _ h => hFc q h) hFc (fun r1 u t H1 locs ht hvm w2 hB hz1 hk1 hS => ?_)
  obtain ⟨hP1, hD1⟩ := hB
  rw [ht] at hP1
  try dsimp only at w2
  obtain ⟨hP, hD⟩ := va_join (wr := []) (w1 := []) hP hD [0, 1] [] rfl rfl (by decide) (by decide) hk1 hFc hP1 hD1
  generalize H1 = H at hP hS ⊢
  have hP : va_P (dC, dI) vwCl [] H := hP
  have hD : va_D A [] := hD
  refine W.widen (k := 0) (n := 0) (Nat.le_of_ble_eq_true rfl) (Nat.le_of_ble_eq_true rfl) ?_
  subst w2
  have hP9 := hP.sub (ws' := []) [] rfl
  have hD9 := hD.sub (ws' := []) [] (by decide) rfl
  exact W.iret (v := (-1)) hx hb hr (fun t ht hW => ⟨⟨(-1), (), rfl, rfl, by rw [ht]; exact hP9, hD9⟩, hS.F ht⟩) hS.2.2 dX10_loss_15
def rm_k10_loss_hi : Room := { frames := 1, cells := 0, slots := 0, locals := 20 }
set_option maxHeartbeats 4000000 in
set_option maxRecDepth 100000 in
theorem k10_loss_hi (l : Launch) (dC : Nat → ClassId) (dI : Nat → Nat → Nat) (kB kI kJ kZ kC kS : ClassId) (sz : Nat) (h0 : Nat) (xa1 : Nat) (xa3 : Nat) (xa15 : Nat) (xa27 : Nat) (xa28 : Nat) (xa33 : Nat) (xa38 : Nat) (xa41 : Nat) (xa45 : Nat) (xa46 : Nat) (xa47 : Nat) (xa52 : Nat) (xa54 : Nat) (xa55 : Nat) (xa60 : Nat) (xa62 : Nat) (xa67 : Nat) (p0 : Int32) (hc0 : 50 < p0) : Met l yX10_loss wsX10_loss rm_k10_loss_hi (va_Pc [.ref h0, .int p0] (fun U => U.heap.size = sz ∧ va_P (dC, dI) vwCl [(h0, .inr (10, [.ref xa1, .ref xa3, .ref xa15, .ref xa27, .ref xa28, .ref xa33, .ref xa38, .ref xa41, .ref xa45, .ref xa46, .ref xa47, .ref xa52, .ref xa54, .int 0, .ref xa55, .ref xa60, .ref xa62, .ref xa67, .int (-1)])), (xa54, .inl (kI, 3, .inl (fun _ => 0)))] U.heap ∧ kE dC dI kB kI kJ kZ kC kS U ∧ va_D (fun _ => True) [(h0, .inr (10, [.ref xa1, .ref xa3, .ref xa15, .ref xa27, .ref xa28, .ref xa33, .ref xa38, .ref xa41, .ref xa45, .ref xa46, .ref xa47, .ref xa52, .ref xa54, .int 0, .ref xa55, .ref xa60, .ref xa62, .ref xa67, .int (-1)])), (xa54, .inl (kI, 3, .inl (fun _ => 0)))])) (va_Qi (fun (r : Int32) (_ : Unit) => r = -1) (fun _ t => va_P (dC, dI) vwCl [] t.heap ∧ va_D (va_A [(h0, .inr (10, [.ref xa1, .ref xa3, .ref xa15, .ref xa27, .ref xa28, .ref xa33, .ref xa38, .ref xa41, .ref xa45, .ref xa46, .ref xa47, .ref xa52, .ref xa54, .int 0, .ref xa55, .ref xa60, .ref xa62, .ref xa67, .int (-1)])), (xa54, .inl (kI, 3, .inl (fun _ => 0)))] sz) []) (va_A [(h0, .inr (10, [.ref xa1, .ref xa3, .ref xa15, .ref xa27, .ref xa28, .ref xa33, .ref xa38, .ref xa41, .ref xa45, .ref xa46, .ref xa47, .ref xa52, .ref xa54, .int 0, .ref xa55, .ref xa60, .ref xa62, .ref xa67, .int (-1)])), (xa54, .inl (kI, 3, .inl (fun _ => 0)))] sz)) 0 0 (va_A [(h0, .inr (10, [.ref xa1, .ref xa3, .ref xa15, .ref xa27, .ref xa28, .ref xa33, .ref xa38, .ref xa41, .ref xa45, .ref xa46, .ref xa47, .ref xa52, .ref xa54, .int 0, .ref xa55, .ref xa60, .ref xa62, .ref xa67, .int (-1)])), (xa54, .inl (kI, 3, .inl (fun _ => 0)))] sz) := by
  refine Met.ofW (cc := cX10_loss) (maxL := 3) (ret := (some .int)) (by decide) rfl ?_
  intro p e s m args0 below meth c s₁ B hml hv
  obtain ⟨hargs, hsz, hP, hE, hD0⟩ := hv
  have hx := B.exec
  have hb := B.bytes
  have hr := B.returns
  have hts := atoms_spec (ws := wsX10_loss) B.pre
  have hown : s.vm.findClass RX10 = some m.cls := findClass_of_methodNamed B.named
  have hlocks := B.notSynchronized
  have hK := hE.1
  have hin10 : ∀ w ∈ wsX100, w ∈ wsX10_loss := fun _ h9 => List.mem_cons_of_mem _ (List.mem_append_left _ (List.mem_append_left _ (List.mem_append_right _ h9)))
  have hin0 : ∀ w ∈ wsX00, w ∈ wsX10_loss := fun _ h9 => List.mem_cons_of_mem _ (List.mem_append_left _ (List.mem_append_right _ h9))
  have hin1 : ∀ w ∈ wsX10, w ∈ wsX10_loss := fun _ h9 => List.mem_cons_of_mem _ (List.mem_append_right _ h9)
  subst hsz
  have hD := hD0.self (sz := s.heap.size)
  generalize hAe : va_A [(h0, .inr (10, [.ref xa1, .ref xa3, .ref xa15, .ref xa27, .ref xa28, .ref xa33, .ref xa38, .ref xa41, .ref xa45, .ref xa46, .ref xa47, .ref xa52, .ref xa54, .int 0, .ref xa55, .ref xa60, .ref xa62, .ref xa67, .int (-1)])), (xa54, .inl (kI, 3, .inl (fun _ => 0)))] s.heap.size = A at hD ⊢
  have hA : ∀ q : Nat, s.heap.size ≤ q → A q := fun q h => by rw [← hAe]; exact Or.inr h
  have hS : va_S A s.heap s.heap [] := va_S.rf
  have hP : va_P (dC, dI) vwCl [(h0, .inr (10, [.ref xa1, .ref xa3, .ref xa15, .ref xa27, .ref xa28, .ref xa33, .ref xa38, .ref xa41, .ref xa45, .ref xa46, .ref xa47, .ref xa52, .ref xa54, .int 0, .ref xa55, .ref xa60, .ref xa62, .ref xa67, .int (-1)])), (xa54, .inl (kI, 3, .inl (fun _ => 0)))] s.heap := hP
  have hl := lv_entry ([.ref h0, .int p0]) (n := 3) (Nat.le_of_ble_eq_true rfl)
  have hla : entryFrame m args0 3 = entryFrame m ([.ref h0, .int p0] : List Value).toArray 3 := by rw [hargs]
  rw [hla, lg_entry_eq]
  generalize (lg_sl ([.ref h0, .int p0]) ++ List.replicate (3 - (lg_sl ([.ref h0, .int p0])).length) Slot.unset).toArray = ls at hl ⊢
  have hl : lv_has ls 3 [(0, .ref h0), (1, .int p0)] := hl
  refine lv_iload_n hx hb dX10_loss_0 rfl (lv_at hl 1 rfl) ?_
  refine lv_iconst (v := 1) hx hb dX10_loss_1 (by decide) ?_
  refine lv_icmp_lt (tgt := 11) hx hb dX10_loss_2 (by decide) (fun c9 => absurd c9 (by have hhc0 := hc0; simp only [Int32.lt_iff_toInt_lt, Int32.le_iff_toInt_le, ← Int32.toInt_inj, (by decide : (0 : Int32).toInt = 0), (by decide : (1 : Int32).toInt = 1), (by decide : (50 : Int32).toInt = 50)] at hhc0 ⊢; omega)) (fun _ => ?_)
  refine lv_iload_n hx hb dX10_loss_5 rfl (lv_at hl 1 rfl) ?_
  refine lv_bipush (v := 50) hx hb dX10_loss_6 (by decide) ?_
  refine lv_icmp_le (tgt := 16) hx hb dX10_loss_8 (by decide) (fun c9 => absurd c9 (by have hhc0 := hc0; simp only [Int32.lt_iff_toInt_lt, Int32.le_iff_toInt_le, ← Int32.toInt_inj, (by decide : (0 : Int32).toInt = 0), (by decide : (50 : Int32).toInt = 50)] at hhc0 ⊢; omega)) (fun _ => ?_)
  refine lv_aload_n hx hb dX10_loss_11 rfl (lv_at hl 0 rfl) ?_
  have hPc := hP.sub (ws' := [(h0, .inr (10, [.ref xa1, .ref xa3, .ref xa15, .ref xa27, .ref xa28, .ref xa33, .ref xa38, .ref xa41, .ref xa45, .ref xa46, .ref xa47, .ref xa52, .ref xa54, .int 0, .ref xa55, .ref xa60, .ref xa62, .ref xa67, .int (-1)])), (xa54, .inl (kI, 3, .inl (fun _ => 0)))]) [0, 1] rfl
  have hDc := hD.sub (ws' := [(h0, .inr (10, [.ref xa1, .ref xa3, .ref xa15, .ref xa27, .ref xa28, .ref xa33, .ref xa38, .ref xa41, .ref xa45, .ref xa46, .ref xa47, .ref xa52, .ref xa54, .int 0, .ref xa55, .ref xa60, .ref xa62, .ref xa67, .int (-1)])), (xa54, .inl (kI, 3, .inl (fun _ => 0)))]) [0, 1] (by decide) rfl
  have hFc := va_free (wc := [(h0, .inr (10, [.ref xa1, .ref xa3, .ref xa15, .ref xa27, .ref xa28, .ref xa33, .ref xa38, .ref xa41, .ref xa45, .ref xa46, .ref xa47, .ref xa52, .ref xa54, .int 0, .ref xa55, .ref xa60, .ref xa62, .ref xa67, .int (-1)])), (xa54, .inl (kI, 3, .inl (fun _ => 0)))]) hD hS hA [0, 1] rfl
  refine va_calli (va_runV (As := []) (rest := []) ⟨hx, hb, hml, hown, hts⟩ (k10_refuseAct l dC dI kB kI kJ kZ kC kS s.heap.size h0 xa1 xa3 xa15 xa27 xa28 xa33 xa38 xa41 xa45 xa46 xa47 xa52 xa54 xa55 xa60 xa62 xa67) (cwV 0 hts gX10_loss_X10_refuseAct rfl rfl rfl (by decide +kernel) ⟨Nat.le_of_ble_eq_true rfl, Nat.le_of_ble_eq_true rfl⟩) ⟨fun a U g mk q => by obtain ⟨q0, q1, qP, qE, qD⟩ := q; exact ⟨q0, q1, qP, kE_call qE, qD⟩, va_recv hK hP (ci := 10) (q0 := 0) rfl rfl, fun U hU hW => ⟨rfl, by rw [hU], by rw [hU]; exact hPc, kE_warm hW hE, hDc.weaken (fun _ _ _ _ => trivial)⟩⟩ rfl rfl hl.1 rfl (lv_room (Nat.le_of_ble_eq_true rfl)) dX10_loss_12 ⟨Nat.le_of_ble_eq_true rfl, Nat.le_of_ble_eq_true rfl⟩) hS (fun q _ h => hFc q h) hFc (fun r1 u t H1 locs ht hvm w2 hB hz1 hk1 hS => ?_)
  obtain ⟨hP1, hD1⟩ := hB
  rw [ht] at hP1
  try dsimp only at w2
  obtain ⟨hP, hD⟩ := va_join (wr := []) (w1 := []) hP hD [0, 1] [] rfl rfl (by decide) (by decide) hk1 hFc hP1 hD1
  generalize H1 = H at hP hS ⊢
  have hP : va_P (dC, dI) vwCl [] H := hP
  have hD : va_D A [] := hD
  refine W.widen (k := 0) (n := 0) (Nat.le_of_ble_eq_true rfl) (Nat.le_of_ble_eq_true rfl) ?_
  subst w2
  have hP9 := hP.sub (ws' := []) [] rfl
  have hD9 := hD.sub (ws' := []) [] (by decide) rfl
  exact W.iret (v := (-1)) hx hb hr (fun t ht hW => ⟨⟨(-1), (), rfl, rfl, by rw [ht]; exact hP9, hD9⟩, hS.F ht⟩) hS.2.2 dX10_loss_15
def rm_k10_clear : Room := { frames := 4, cells := 5, slots := 160, locals := 102 }
set_option maxHeartbeats 4000000 in
set_option maxRecDepth 100000 in
theorem k10_clear (l : Launch) (dC : Nat → ClassId) (dI : Nat → Nat → Nat) (kB kI kJ kZ kC kS : ClassId) (sz : Nat) (h0 : Nat) (xa1 : Nat) (xa3 : Nat) (xa15 : Nat) (xa27 : Nat) (xa28 : Nat) (xa33 : Nat) (xa38 : Nat) (xa41 : Nat) (xa45 : Nat) (xa46 : Nat) (xa47 : Nat) (xa52 : Nat) (xa54 : Nat) (xa55 : Nat) (xa60 : Nat) (xa62 : Nat) (xa67 : Nat) (xa53 : Nat) (xa29 : Nat) (xa30 : Nat) (xa31 : Nat) (xa32 : Nat) : Met l yX10_clear wsX10_clear rm_k10_clear (va_Pc [.ref h0] (fun U => U.heap.size = sz ∧ va_P (dC, dI) vwCl [(h0, .inr (10, [.ref xa1, .ref xa3, .ref xa15, .ref xa27, .ref xa28, .ref xa33, .ref xa38, .ref xa41, .ref xa45, .ref xa46, .ref xa47, .ref xa52, .ref xa54, .int 0, .ref xa55, .ref xa60, .ref xa62, .ref xa67, .int (-1)])), (xa52, .inr (1, [.ref xa53, .int 0, .int 0])), (xa53, .inl (kC, 40, .inr (.inr (.inr (.inr (fun _ => none)))))), (xa28, .inr (0, [.ref xa29, .ref xa30, .ref xa31, .ref xa32, .int 5, .int 0, .int 0, .int 0, .int 0, .int 0])), (xa29, .inl (kJ, 96, .inr (.inl (fun _ => 0)))), (xa30, .inl (kI, 30, .inl (fun _ => 0))), (xa31, .inl (kI, 12, .inl (fun _ => 0))), (xa32, .inl (kI, 12, .inl (fun _ => 0)))] U.heap ∧ kE dC dI kB kI kJ kZ kC kS U ∧ va_D (fun _ => True) [(h0, .inr (10, [.ref xa1, .ref xa3, .ref xa15, .ref xa27, .ref xa28, .ref xa33, .ref xa38, .ref xa41, .ref xa45, .ref xa46, .ref xa47, .ref xa52, .ref xa54, .int 0, .ref xa55, .ref xa60, .ref xa62, .ref xa67, .int (-1)])), (xa52, .inr (1, [.ref xa53, .int 0, .int 0])), (xa53, .inl (kC, 40, .inr (.inr (.inr (.inr (fun _ => none)))))), (xa28, .inr (0, [.ref xa29, .ref xa30, .ref xa31, .ref xa32, .int 5, .int 0, .int 0, .int 0, .int 0, .int 0])), (xa29, .inl (kJ, 96, .inr (.inl (fun _ => 0)))), (xa30, .inl (kI, 30, .inl (fun _ => 0))), (xa31, .inl (kI, 12, .inl (fun _ => 0))), (xa32, .inl (kI, 12, .inl (fun _ => 0)))])) (va_Qi (fun (r : Int32) (_ : Unit) => r = 0) (fun _ t => va_P (dC, dI) vwCl [] t.heap ∧ va_D (va_A [(h0, .inr (10, [.ref xa1, .ref xa3, .ref xa15, .ref xa27, .ref xa28, .ref xa33, .ref xa38, .ref xa41, .ref xa45, .ref xa46, .ref xa47, .ref xa52, .ref xa54, .int 0, .ref xa55, .ref xa60, .ref xa62, .ref xa67, .int (-1)])), (xa52, .inr (1, [.ref xa53, .int 0, .int 0])), (xa53, .inl (kC, 40, .inr (.inr (.inr (.inr (fun _ => none)))))), (xa28, .inr (0, [.ref xa29, .ref xa30, .ref xa31, .ref xa32, .int 5, .int 0, .int 0, .int 0, .int 0, .int 0])), (xa29, .inl (kJ, 96, .inr (.inl (fun _ => 0)))), (xa30, .inl (kI, 30, .inl (fun _ => 0))), (xa31, .inl (kI, 12, .inl (fun _ => 0))), (xa32, .inl (kI, 12, .inl (fun _ => 0)))] sz) []) (va_A [(h0, .inr (10, [.ref xa1, .ref xa3, .ref xa15, .ref xa27, .ref xa28, .ref xa33, .ref xa38, .ref xa41, .ref xa45, .ref xa46, .ref xa47, .ref xa52, .ref xa54, .int 0, .ref xa55, .ref xa60, .ref xa62, .ref xa67, .int (-1)])), (xa52, .inr (1, [.ref xa53, .int 0, .int 0])), (xa53, .inl (kC, 40, .inr (.inr (.inr (.inr (fun _ => none)))))), (xa28, .inr (0, [.ref xa29, .ref xa30, .ref xa31, .ref xa32, .int 5, .int 0, .int 0, .int 0, .int 0, .int 0])), (xa29, .inl (kJ, 96, .inr (.inl (fun _ => 0)))), (xa30, .inl (kI, 30, .inl (fun _ => 0))), (xa31, .inl (kI, 12, .inl (fun _ => 0))), (xa32, .inl (kI, 12, .inl (fun _ => 0)))] sz)) 5 160 (va_A [(h0, .inr (10, [.ref xa1, .ref xa3, .ref xa15, .ref xa27, .ref xa28, .ref xa33, .ref xa38, .ref xa41, .ref xa45, .ref xa46, .ref xa47, .ref xa52, .ref xa54, .int 0, .ref xa55, .ref xa60, .ref xa62, .ref xa67, .int (-1)])), (xa52, .inr (1, [.ref xa53, .int 0, .int 0])), (xa53, .inl (kC, 40, .inr (.inr (.inr (.inr (fun _ => none)))))), (xa28, .inr (0, [.ref xa29, .ref xa30, .ref xa31, .ref xa32, .int 5, .int 0, .int 0, .int 0, .int 0, .int 0])), (xa29, .inl (kJ, 96, .inr (.inl (fun _ => 0)))), (xa30, .inl (kI, 30, .inl (fun _ => 0))), (xa31, .inl (kI, 12, .inl (fun _ => 0))), (xa32, .inl (kI, 12, .inl (fun _ => 0)))] sz) := by
  refine Met.ofW (cc := cX10_clear) (maxL := 2) (ret := (some .int)) (by decide) rfl ?_
  intro p e s m args0 below meth c s₁ B hml hv
  obtain ⟨hargs, hsz, hP, hE, hD0⟩ := hv
  have hx := B.exec
  have hb := B.bytes
  have hr := B.returns
  have hts := atoms_spec (ws := wsX10_clear) B.pre
  have hown : s.vm.findClass RX10 = some m.cls := findClass_of_methodNamed B.named
  have hlocks := B.notSynchronized
  have hK := hE.1
  have hin10 : ∀ w ∈ wsX100, w ∈ wsX10_clear := fun _ h9 => List.mem_cons_of_mem _ (List.mem_append_left _ (List.mem_append_left _ (List.mem_append_right _ h9)))
  have hin1 : ∀ w ∈ wsX10, w ∈ wsX10_clear := fun _ h9 => List.mem_cons_of_mem _ (List.mem_append_left _ (List.mem_append_right _ h9))
  have hin0 : ∀ w ∈ wsX00, w ∈ wsX10_clear := fun _ h9 => List.mem_cons_of_mem _ (List.mem_append_right _ h9)
  subst hsz
  have hD := hD0.self (sz := s.heap.size)
  generalize hAe : va_A [(h0, .inr (10, [.ref xa1, .ref xa3, .ref xa15, .ref xa27, .ref xa28, .ref xa33, .ref xa38, .ref xa41, .ref xa45, .ref xa46, .ref xa47, .ref xa52, .ref xa54, .int 0, .ref xa55, .ref xa60, .ref xa62, .ref xa67, .int (-1)])), (xa52, .inr (1, [.ref xa53, .int 0, .int 0])), (xa53, .inl (kC, 40, .inr (.inr (.inr (.inr (fun _ => none)))))), (xa28, .inr (0, [.ref xa29, .ref xa30, .ref xa31, .ref xa32, .int 5, .int 0, .int 0, .int 0, .int 0, .int 0])), (xa29, .inl (kJ, 96, .inr (.inl (fun _ => 0)))), (xa30, .inl (kI, 30, .inl (fun _ => 0))), (xa31, .inl (kI, 12, .inl (fun _ => 0))), (xa32, .inl (kI, 12, .inl (fun _ => 0)))] s.heap.size = A at hD ⊢
  have hA : ∀ q : Nat, s.heap.size ≤ q → A q := fun q h => by rw [← hAe]; exact Or.inr h
  have hS : va_S A s.heap s.heap [] := va_S.rf
  have hP : va_P (dC, dI) vwCl [(h0, .inr (10, [.ref xa1, .ref xa3, .ref xa15, .ref xa27, .ref xa28, .ref xa33, .ref xa38, .ref xa41, .ref xa45, .ref xa46, .ref xa47, .ref xa52, .ref xa54, .int 0, .ref xa55, .ref xa60, .ref xa62, .ref xa67, .int (-1)])), (xa52, .inr (1, [.ref xa53, .int 0, .int 0])), (xa53, .inl (kC, 40, .inr (.inr (.inr (.inr (fun _ => none)))))), (xa28, .inr (0, [.ref xa29, .ref xa30, .ref xa31, .ref xa32, .int 5, .int 0, .int 0, .int 0, .int 0, .int 0])), (xa29, .inl (kJ, 96, .inr (.inl (fun _ => 0)))), (xa30, .inl (kI, 30, .inl (fun _ => 0))), (xa31, .inl (kI, 12, .inl (fun _ => 0))), (xa32, .inl (kI, 12, .inl (fun _ => 0)))] s.heap := hP
  have hl := lv_entry ([.ref h0]) (n := 2) (Nat.le_of_ble_eq_true rfl)
  have hla : entryFrame m args0 2 = entryFrame m ([.ref h0] : List Value).toArray 2 := by rw [hargs]
  rw [hla, lg_entry_eq]
  generalize (lg_sl ([.ref h0]) ++ List.replicate (2 - (lg_sl ([.ref h0])).length) Slot.unset).toArray = ls at hl ⊢
  have hl : lv_has ls 2 [(0, .ref h0)] := hl
  refine lv_aload_n hx hb dX10_clear_0 rfl (lv_at hl 0 rfl) ?_
  refine va_get (D := (dC, dI)) (ci := 10) (v := .ref xa52) (C := RX10) (T := TX10) (N := 19) hx hb hts hin10 hown hK hP 0 rfl rfl 11 (by decide) (hts (.fieldLink RX10 89 "PathProber" "history" "LPathProber$History;") (List.mem_of_getElem? (i := 1) (by decide +kernel))) (fun _ h9 => h9) rfl dX10_clear_1 ?_
  refine lv_aload_n hx hb dX10_clear_4 rfl (lv_at hl 0 rfl) ?_
  refine va_get (D := (dC, dI)) (ci := 10) (v := .ref xa28) (C := RX10) (T := TX10) (N := 19) hx hb hts hin10 hown hK hP 0 rfl rfl 4 (by decide) (hts (.fieldLink RX10 38 "PathProber" "now" "LPathProber$Condition;") (List.mem_of_getElem? (i := 2) (by decide +kernel))) (fun _ h9 => h9) rfl dX10_clear_5 ?_
  have hPc := hP.sub (ws' := [(xa52, .inr (1, [.ref xa53, .int 0, .int 0])), (xa53, .inl (kC, 40, .inr (.inr (.inr (.inr (fun _ => none)))))), (xa28, .inr (0, [.ref xa29, .ref xa30, .ref xa31, .ref xa32, .int 5, .int 0, .int 0, .int 0, .int 0, .int 0])), (xa29, .inl (kJ, 96, .inr (.inl (fun _ => 0)))), (xa30, .inl (kI, 30, .inl (fun _ => 0))), (xa31, .inl (kI, 12, .inl (fun _ => 0))), (xa32, .inl (kI, 12, .inl (fun _ => 0)))]) [1, 2, 3, 4, 5, 6, 7] rfl
  have hDc := hD.sub (ws' := [(xa52, .inr (1, [.ref xa53, .int 0, .int 0])), (xa53, .inl (kC, 40, .inr (.inr (.inr (.inr (fun _ => none)))))), (xa28, .inr (0, [.ref xa29, .ref xa30, .ref xa31, .ref xa32, .int 5, .int 0, .int 0, .int 0, .int 0, .int 0])), (xa29, .inl (kJ, 96, .inr (.inl (fun _ => 0)))), (xa30, .inl (kI, 30, .inl (fun _ => 0))), (xa31, .inl (kI, 12, .inl (fun _ => 0))), (xa32, .inl (kI, 12, .inl (fun _ => 0)))]) [1, 2, 3, 4, 5, 6, 7] (by decide) rfl
  have hFc := va_free (wc := [(xa52, .inr (1, [.ref xa53, .int 0, .int 0])), (xa53, .inl (kC, 40, .inr (.inr (.inr (.inr (fun _ => none)))))), (xa28, .inr (0, [.ref xa29, .ref xa30, .ref xa31, .ref xa32, .int 5, .int 0, .int 0, .int 0, .int 0, .int 0])), (xa29, .inl (kJ, 96, .inr (.inl (fun _ => 0)))), (xa30, .inl (kI, 30, .inl (fun _ => 0))), (xa31, .inl (kI, 12, .inl (fun _ => 0))), (xa32, .inl (kI, 12, .inl (fun _ => 0)))]) hD hS hA [1, 2, 3, 4, 5, 6, 7] rfl
  refine va_callv (va_runV (As := [.ref xa28]) (rest := []) ⟨hx, hb, hml, hown, hts⟩ (k1_keep l dC dI kB kI kJ kZ kC kS s.heap.size xa52 xa53 xa28 xa29 xa30 xa31 xa32) (cwV 1 hts gX10_clear_X1_keep rfl rfl rfl (by decide +kernel) ⟨Nat.le_of_ble_eq_true rfl, Nat.le_of_ble_eq_true rfl⟩) ⟨fun a U g mk q => by obtain ⟨q0, q1, qP, qE, qD⟩ := q; exact ⟨q0, q1, qP, kE_call qE, qD⟩, va_recv hK hP (ci := 1) (q0 := 1) rfl rfl, fun U hU hW => ⟨rfl, by rw [hU], by rw [hU]; exact hPc, kE_warm hW hE, hDc.weaken (fun _ _ _ _ => trivial)⟩⟩ rfl rfl hl.1 rfl (lv_room (Nat.le_of_ble_eq_true rfl)) dX10_clear_8 ⟨Nat.le_of_ble_eq_true rfl, Nat.le_of_ble_eq_true rfl⟩) hS (fun q _ h => hFc q h) hFc (fun u t H1 locs ht hvm w2 hB hz1 hk1 hS => ?_)
  obtain ⟨g_3, hP1, hD1⟩ := hB
  rw [ht] at hP1
  try dsimp only at w2
  obtain ⟨hP, hD⟩ := va_join (wr := [(h0, .inr (10, [.ref xa1, .ref xa3, .ref xa15, .ref xa27, .ref xa28, .ref xa33, .ref xa38, .ref xa41, .ref xa45, .ref xa46, .ref xa47, .ref xa52, .ref xa54, .int 0, .ref xa55, .ref xa60, .ref xa62, .ref xa67, .int (-1)]))]) (w1 := [(xa52, .inr (1, [.ref xa53, .int 0, .int 1])), (xa53, .inl (kC, 40, .inr (.inr (.inr (.inr g_3))))), (xa28, .inr (0, [.ref xa29, .ref xa30, .ref xa31, .ref xa32, .int 5, .int 0, .int 0, .int 0, .int 0, .int 0])), (xa29, .inl (kJ, 96, .inr (.inl (fun _ => 0)))), (xa30, .inl (kI, 30, .inl (fun _ => 0))), (xa31, .inl (kI, 12, .inl (fun _ => 0))), (xa32, .inl (kI, 12, .inl (fun _ => 0)))]) hP hD [1, 2, 3, 4, 5, 6, 7] [0] rfl rfl (by decide) (by decide) hk1 hFc hP1 hD1
  generalize H1 = H at hP hS ⊢
  have hP : va_P (dC, dI) vwCl [(h0, .inr (10, [.ref xa1, .ref xa3, .ref xa15, .ref xa27, .ref xa28, .ref xa33, .ref xa38, .ref xa41, .ref xa45, .ref xa46, .ref xa47, .ref xa52, .ref xa54, .int 0, .ref xa55, .ref xa60, .ref xa62, .ref xa67, .int (-1)])), (xa52, .inr (1, [.ref xa53, .int 0, .int 1])), (xa53, .inl (kC, 40, .inr (.inr (.inr (.inr g_3))))), (xa28, .inr (0, [.ref xa29, .ref xa30, .ref xa31, .ref xa32, .int 5, .int 0, .int 0, .int 0, .int 0, .int 0])), (xa29, .inl (kJ, 96, .inr (.inl (fun _ => 0)))), (xa30, .inl (kI, 30, .inl (fun _ => 0))), (xa31, .inl (kI, 12, .inl (fun _ => 0))), (xa32, .inl (kI, 12, .inl (fun _ => 0)))] H := hP
  have hD : va_D A [(h0, .inr (10, [.ref xa1, .ref xa3, .ref xa15, .ref xa27, .ref xa28, .ref xa33, .ref xa38, .ref xa41, .ref xa45, .ref xa46, .ref xa47, .ref xa52, .ref xa54, .int 0, .ref xa55, .ref xa60, .ref xa62, .ref xa67, .int (-1)])), (xa52, .inr (1, [.ref xa53, .int 0, .int 1])), (xa53, .inl (kC, 40, .inr (.inr (.inr (.inr g_3))))), (xa28, .inr (0, [.ref xa29, .ref xa30, .ref xa31, .ref xa32, .int 5, .int 0, .int 0, .int 0, .int 0, .int 0])), (xa29, .inl (kJ, 96, .inr (.inl (fun _ => 0)))), (xa30, .inl (kI, 30, .inl (fun _ => 0))), (xa31, .inl (kI, 12, .inl (fun _ => 0))), (xa32, .inl (kI, 12, .inl (fun _ => 0)))] := hD
  refine W.widen (k := 5) (n := 160) (Nat.le_of_ble_eq_true rfl) (Nat.le_of_ble_eq_true rfl) ?_
  refine lv_aload_n hx hb dX10_clear_11 rfl (lv_at hl 0 rfl) ?_
  refine va_get (D := (dC, dI)) (ci := 10) (v := .ref xa28) (C := RX10) (T := TX10) (N := 19) hx hb hts hin10 hown hK hP 0 rfl rfl 4 (by decide) (hts (.fieldLink RX10 38 "PathProber" "now" "LPathProber$Condition;") (List.mem_of_getElem? (i := 2) (by decide +kernel))) (fun _ h9 => h9) rfl dX10_clear_12 ?_
  have hPc := hP.sub (ws' := [(xa28, .inr (0, [.ref xa29, .ref xa30, .ref xa31, .ref xa32, .int 5, .int 0, .int 0, .int 0, .int 0, .int 0])), (xa29, .inl (kJ, 96, .inr (.inl (fun _ => 0)))), (xa30, .inl (kI, 30, .inl (fun _ => 0))), (xa31, .inl (kI, 12, .inl (fun _ => 0))), (xa32, .inl (kI, 12, .inl (fun _ => 0)))]) [3, 4, 5, 6, 7] rfl
  have hDc := hD.sub (ws' := [(xa28, .inr (0, [.ref xa29, .ref xa30, .ref xa31, .ref xa32, .int 5, .int 0, .int 0, .int 0, .int 0, .int 0])), (xa29, .inl (kJ, 96, .inr (.inl (fun _ => 0)))), (xa30, .inl (kI, 30, .inl (fun _ => 0))), (xa31, .inl (kI, 12, .inl (fun _ => 0))), (xa32, .inl (kI, 12, .inl (fun _ => 0)))]) [3, 4, 5, 6, 7] (by decide) rfl
  have hFc := va_free (wc := [(xa28, .inr (0, [.ref xa29, .ref xa30, .ref xa31, .ref xa32, .int 5, .int 0, .int 0, .int 0, .int 0, .int 0])), (xa29, .inl (kJ, 96, .inr (.inl (fun _ => 0)))), (xa30, .inl (kI, 30, .inl (fun _ => 0))), (xa31, .inl (kI, 12, .inl (fun _ => 0))), (xa32, .inl (kI, 12, .inl (fun _ => 0)))]) hD hS hA [3, 4, 5, 6, 7] rfl
  refine va_calli (va_runV (As := []) (rest := []) ⟨hx, hb, hml, hown, hts⟩ (k0_sentInAll l dC dI kB kI kJ kZ kC kS H.size xa28 xa29 xa30 xa31 xa32 5 0 0 0 0 0 (fun _ => 0) (fun _ => 0) (fun _ => 0)) (cwV 0 hts gX10_clear_X0_sentInAll rfl rfl rfl (by decide +kernel) ⟨Nat.le_of_ble_eq_true rfl, Nat.le_of_ble_eq_true rfl⟩) ⟨fun a U g mk q => by obtain ⟨q0, q1, qP, qE, qD⟩ := q; exact ⟨q0, q1, qP, kE_call qE, qD⟩, va_recv hK hP (ci := 0) (q0 := 3) rfl rfl, fun U hU hW => ⟨rfl, by rw [hU], by rw [hU]; exact hPc, kE_warm hW hE, hDc.weaken (fun _ _ _ _ => trivial)⟩⟩ rfl rfl hl.1 rfl (lv_room (Nat.le_of_ble_eq_true rfl)) dX10_clear_15 ⟨Nat.le_of_ble_eq_true rfl, Nat.le_of_ble_eq_true rfl⟩) hS (fun q _ h => hFc q h) hFc (fun r4 u t H1 locs ht hvm w5 hB hz1 hk1 hS => ?_)
  obtain ⟨hP1, hD1⟩ := hB
  rw [ht] at hP1
  try dsimp only at w5
  obtain ⟨hP, hD⟩ := va_join (wr := [(h0, .inr (10, [.ref xa1, .ref xa3, .ref xa15, .ref xa27, .ref xa28, .ref xa33, .ref xa38, .ref xa41, .ref xa45, .ref xa46, .ref xa47, .ref xa52, .ref xa54, .int 0, .ref xa55, .ref xa60, .ref xa62, .ref xa67, .int (-1)])), (xa52, .inr (1, [.ref xa53, .int 0, .int 1])), (xa53, .inl (kC, 40, .inr (.inr (.inr (.inr g_3)))))]) (w1 := [(xa28, .inr (0, [.ref xa29, .ref xa30, .ref xa31, .ref xa32, .int 5, .int 0, .int 0, .int 0, .int 0, .int 0])), (xa29, .inl (kJ, 96, .inr (.inl (fun _ => 0)))), (xa30, .inl (kI, 30, .inl (fun _ => 0))), (xa31, .inl (kI, 12, .inl (fun _ => 0))), (xa32, .inl (kI, 12, .inl (fun _ => 0)))]) hP hD [3, 4, 5, 6, 7] [0, 1, 2] rfl rfl (by decide) (by decide) hk1 hFc hP1 hD1
  generalize H1 = H at hP hS ⊢
  have hP : va_P (dC, dI) vwCl [(h0, .inr (10, [.ref xa1, .ref xa3, .ref xa15, .ref xa27, .ref xa28, .ref xa33, .ref xa38, .ref xa41, .ref xa45, .ref xa46, .ref xa47, .ref xa52, .ref xa54, .int 0, .ref xa55, .ref xa60, .ref xa62, .ref xa67, .int (-1)])), (xa52, .inr (1, [.ref xa53, .int 0, .int 1])), (xa53, .inl (kC, 40, .inr (.inr (.inr (.inr g_3))))), (xa28, .inr (0, [.ref xa29, .ref xa30, .ref xa31, .ref xa32, .int 5, .int 0, .int 0, .int 0, .int 0, .int 0])), (xa29, .inl (kJ, 96, .inr (.inl (fun _ => 0)))), (xa30, .inl (kI, 30, .inl (fun _ => 0))), (xa31, .inl (kI, 12, .inl (fun _ => 0))), (xa32, .inl (kI, 12, .inl (fun _ => 0)))] H := hP
  have hD : va_D A [(h0, .inr (10, [.ref xa1, .ref xa3, .ref xa15, .ref xa27, .ref xa28, .ref xa33, .ref xa38, .ref xa41, .ref xa45, .ref xa46, .ref xa47, .ref xa52, .ref xa54, .int 0, .ref xa55, .ref xa60, .ref xa62, .ref xa67, .int (-1)])), (xa52, .inr (1, [.ref xa53, .int 0, .int 1])), (xa53, .inl (kC, 40, .inr (.inr (.inr (.inr g_3))))), (xa28, .inr (0, [.ref xa29, .ref xa30, .ref xa31, .ref xa32, .int 5, .int 0, .int 0, .int 0, .int 0, .int 0])), (xa29, .inl (kJ, 96, .inr (.inl (fun _ => 0)))), (xa30, .inl (kI, 30, .inl (fun _ => 0))), (xa31, .inl (kI, 12, .inl (fun _ => 0))), (xa32, .inl (kI, 12, .inl (fun _ => 0)))] := hD
  refine W.widen (k := 5) (n := 160) (Nat.le_of_ble_eq_true rfl) (Nat.le_of_ble_eq_true rfl) ?_
  subst w5
  refine lv_istore_n (lv' := [(1, .int 0), (0, .ref h0)]) hx hb dX10_clear_18 rfl hl (by decide) rfl (fun ls hl => ?_)
  refine lv_aload_n hx hb dX10_clear_19 rfl (lv_at hl 1 rfl) ?_
  refine va_get (D := (dC, dI)) (ci := 10) (v := .ref xa28) (C := RX10) (T := TX10) (N := 19) hx hb hts hin10 hown hK hP 0 rfl rfl 4 (by decide) (hts (.fieldLink RX10 38 "PathProber" "now" "LPathProber$Condition;") (List.mem_of_getElem? (i := 2) (by decide +kernel))) (fun _ h9 => h9) rfl dX10_clear_20 ?_
  have hPc := hP.sub (ws' := [(xa28, .inr (0, [.ref xa29, .ref xa30, .ref xa31, .ref xa32, .int 5, .int 0, .int 0, .int 0, .int 0, .int 0])), (xa29, .inl (kJ, 96, .inr (.inl (fun _ => 0)))), (xa30, .inl (kI, 30, .inl (fun _ => 0))), (xa31, .inl (kI, 12, .inl (fun _ => 0))), (xa32, .inl (kI, 12, .inl (fun _ => 0)))]) [3, 4, 5, 6, 7] rfl
  have hDc := hD.sub (ws' := [(xa28, .inr (0, [.ref xa29, .ref xa30, .ref xa31, .ref xa32, .int 5, .int 0, .int 0, .int 0, .int 0, .int 0])), (xa29, .inl (kJ, 96, .inr (.inl (fun _ => 0)))), (xa30, .inl (kI, 30, .inl (fun _ => 0))), (xa31, .inl (kI, 12, .inl (fun _ => 0))), (xa32, .inl (kI, 12, .inl (fun _ => 0)))]) [3, 4, 5, 6, 7] (by decide) rfl
  have hFc := va_free (wc := [(xa28, .inr (0, [.ref xa29, .ref xa30, .ref xa31, .ref xa32, .int 5, .int 0, .int 0, .int 0, .int 0, .int 0])), (xa29, .inl (kJ, 96, .inr (.inl (fun _ => 0)))), (xa30, .inl (kI, 30, .inl (fun _ => 0))), (xa31, .inl (kI, 12, .inl (fun _ => 0))), (xa32, .inl (kI, 12, .inl (fun _ => 0)))]) hD hS hA [3, 4, 5, 6, 7] rfl
  refine va_callv (va_runV (As := []) (rest := []) ⟨hx, hb, hml, hown, hts⟩ (k0_forgetAllSeen l dC dI kB kI kJ kZ kC kS H.size xa28 xa29 xa30 xa31 xa32 5 0 0 0 0 0 (fun _ => 0) (fun _ => 0) (fun _ => 0) (fun _ => 0)) (cwV 0 hts gX10_clear_X0_forgetAllSeen rfl rfl rfl (by decide +kernel) ⟨Nat.le_of_ble_eq_true rfl, Nat.le_of_ble_eq_true rfl⟩) ⟨fun a U g mk q => by obtain ⟨q0, q1, qP, qE, qD⟩ := q; exact ⟨q0, q1, qP, kE_call qE, qD⟩, va_recv hK hP (ci := 0) (q0 := 3) rfl rfl, fun U hU hW => ⟨rfl, by rw [hU], by rw [hU]; exact hPc, kE_warm hW hE, hDc.weaken (fun _ _ _ _ => trivial)⟩⟩ rfl rfl hl.1 rfl (lv_room (Nat.le_of_ble_eq_true rfl)) dX10_clear_23 ⟨Nat.le_of_ble_eq_true rfl, Nat.le_of_ble_eq_true rfl⟩) hS (fun q _ h => hFc q h) hFc (fun u t H1 locs ht hvm w7 hB hz1 hk1 hS => ?_)
  obtain ⟨g_8, g_9, hP1, hD1⟩ := hB
  rw [ht] at hP1
  try dsimp only at w7
  obtain ⟨hP, hD⟩ := va_join (wr := [(h0, .inr (10, [.ref xa1, .ref xa3, .ref xa15, .ref xa27, .ref xa28, .ref xa33, .ref xa38, .ref xa41, .ref xa45, .ref xa46, .ref xa47, .ref xa52, .ref xa54, .int 0, .ref xa55, .ref xa60, .ref xa62, .ref xa67, .int (-1)])), (xa52, .inr (1, [.ref xa53, .int 0, .int 1])), (xa53, .inl (kC, 40, .inr (.inr (.inr (.inr g_3)))))]) (w1 := [(xa28, .inr (0, [.ref xa29, .ref xa30, .ref xa31, .ref xa32, .int 5, .int 0, .int 0, .int 0, .int 0, .int 0])), (xa29, .inl (kJ, 96, .inr (.inl g_8))), (xa30, .inl (kI, 30, .inl g_9)), (xa31, .inl (kI, 12, .inl (fun _ => 0))), (xa32, .inl (kI, 12, .inl (fun _ => 0)))]) hP hD [3, 4, 5, 6, 7] [0, 1, 2] rfl rfl (by decide) (by decide) hk1 hFc hP1 hD1
  generalize H1 = H at hP hS ⊢
  have hP : va_P (dC, dI) vwCl [(h0, .inr (10, [.ref xa1, .ref xa3, .ref xa15, .ref xa27, .ref xa28, .ref xa33, .ref xa38, .ref xa41, .ref xa45, .ref xa46, .ref xa47, .ref xa52, .ref xa54, .int 0, .ref xa55, .ref xa60, .ref xa62, .ref xa67, .int (-1)])), (xa52, .inr (1, [.ref xa53, .int 0, .int 1])), (xa53, .inl (kC, 40, .inr (.inr (.inr (.inr g_3))))), (xa28, .inr (0, [.ref xa29, .ref xa30, .ref xa31, .ref xa32, .int 5, .int 0, .int 0, .int 0, .int 0, .int 0])), (xa29, .inl (kJ, 96, .inr (.inl g_8))), (xa30, .inl (kI, 30, .inl g_9)), (xa31, .inl (kI, 12, .inl (fun _ => 0))), (xa32, .inl (kI, 12, .inl (fun _ => 0)))] H := hP
  have hD : va_D A [(h0, .inr (10, [.ref xa1, .ref xa3, .ref xa15, .ref xa27, .ref xa28, .ref xa33, .ref xa38, .ref xa41, .ref xa45, .ref xa46, .ref xa47, .ref xa52, .ref xa54, .int 0, .ref xa55, .ref xa60, .ref xa62, .ref xa67, .int (-1)])), (xa52, .inr (1, [.ref xa53, .int 0, .int 1])), (xa53, .inl (kC, 40, .inr (.inr (.inr (.inr g_3))))), (xa28, .inr (0, [.ref xa29, .ref xa30, .ref xa31, .ref xa32, .int 5, .int 0, .int 0, .int 0, .int 0, .int 0])), (xa29, .inl (kJ, 96, .inr (.inl g_8))), (xa30, .inl (kI, 30, .inl g_9)), (xa31, .inl (kI, 12, .inl (fun _ => 0))), (xa32, .inl (kI, 12, .inl (fun _ => 0)))] := hD
  refine W.widen (k := 5) (n := 160) (Nat.le_of_ble_eq_true rfl) (Nat.le_of_ble_eq_true rfl) ?_
  refine lv_iload_n hx hb dX10_clear_26 rfl (lv_at hl 0 rfl) ?_
  have hP9 := hP.sub (ws' := []) [] rfl
  have hD9 := hD.sub (ws' := []) [] (by decide) rfl
  exact W.iret (v := 0) hx hb hr (fun t ht hW => ⟨⟨0, (), rfl, rfl, by rw [ht]; exact hP9, hD9⟩, hS.F ht⟩) hS.2.2 dX10_clear_27
def rm_k10_image : Room := { frames := 2, cells := 0, slots := 0, locals := 81 }
set_option maxHeartbeats 4000000 in
set_option maxRecDepth 100000 in
theorem k10_image (l : Launch) (dC : Nat → ClassId) (dI : Nat → Nat → Nat) (kB kI kJ kZ kC kS : ClassId) (sz : Nat) (h0 : Nat) (xa1 : Nat) (xa3 : Nat) (xa15 : Nat) (xa27 : Nat) (xa28 : Nat) (xa33 : Nat) (xa38 : Nat) (xa41 : Nat) (xa45 : Nat) (xa46 : Nat) (xa47 : Nat) (xa52 : Nat) (xa54 : Nat) (xa55 : Nat) (xa60 : Nat) (xa62 : Nat) (xa67 : Nat) (xa29 : Nat) (xa30 : Nat) (xa31 : Nat) (xa32 : Nat) (xa56 : Nat) (xa57 : Nat) (xa58 : Nat) (xa59 : Nat) (xa53 : Nat) (xa61 : Nat) (xa48 : Nat) (xa49 : Nat) (xa50 : Nat) (xa51 : Nat) (xa63 : Nat) (xa64 : Nat) (xa65 : Nat) (xa66 : Nat) : Met l yX10_image wsX10_image rm_k10_image (va_Pc [.ref h0] (fun U => U.heap.size = sz ∧ va_P (dC, dI) vwCl [(h0, .inr (10, [.ref xa1, .ref xa3, .ref xa15, .ref xa27, .ref xa28, .ref xa33, .ref xa38, .ref xa41, .ref xa45, .ref xa46, .ref xa47, .ref xa52, .ref xa54, .int 0, .ref xa55, .ref xa60, .ref xa62, .ref xa67, .int (-1)])), (xa28, .inr (0, [.ref xa29, .ref xa30, .ref xa31, .ref xa32, .int 5, .int 0, .int 0, .int 0, .int 0, .int 0])), (xa29, .inl (kJ, 96, .inr (.inl (fun _ => 0)))), (xa30, .inl (kI, 30, .inl (fun _ => 0))), (xa31, .inl (kI, 12, .inl (fun _ => 0))), (xa32, .inl (kI, 12, .inl (fun _ => 0))), (xa55, .inr (0, [.ref xa56, .ref xa57, .ref xa58, .ref xa59, .int 5, .int 0, .int 0, .int 0, .int 0, .int 0])), (xa56, .inl (kJ, 96, .inr (.inl (fun _ => 0)))), (xa57, .inl (kI, 30, .inl (fun _ => 0))), (xa58, .inl (kI, 12, .inl (fun _ => 0))), (xa59, .inl (kI, 12, .inl (fun _ => 0))), (xa52, .inr (1, [.ref xa53, .int 0, .int 0])), (xa60, .inr (1, [.ref xa61, .int 0, .int 0])), (xa47, .inr (3, [.ref xa3, .ref xa45, .ref xa48, .ref xa49, .ref xa50, .ref xa51, .int 0, .int (-1), .int 0])), (xa48, .inl (kI, 8, .inl (fun _ => 0))), (xa49, .inl (kI, 8, .inl (fun _ => 0))), (xa50, .inl (kI, 8, .inl (fun _ => 0))), (xa51, .inl (kI, 8, .inl (fun _ => 0))), (xa62, .inr (3, [.ref xa3, .ref xa45, .ref xa63, .ref xa64, .ref xa65, .ref xa66, .int 0, .int (-1), .int 0])), (xa63, .inl (kI, 8, .inl (fun _ => 0))), (xa64, .inl (kI, 8, .inl (fun _ => 0))), (xa65, .inl (kI, 8, .inl (fun _ => 0))), (xa66, .inl (kI, 8, .inl (fun _ => 0))), (xa54, .inl (kI, 3, .inl (fun _ => 0))), (xa67, .inl (kI, 3, .inl (fun _ => 0)))] U.heap ∧ kE dC dI kB kI kJ kZ kC kS U ∧ va_D (fun _ => True) [(h0, .inr (10, [.ref xa1, .ref xa3, .ref xa15, .ref xa27, .ref xa28, .ref xa33, .ref xa38, .ref xa41, .ref xa45, .ref xa46, .ref xa47, .ref xa52, .ref xa54, .int 0, .ref xa55, .ref xa60, .ref xa62, .ref xa67, .int (-1)])), (xa28, .inr (0, [.ref xa29, .ref xa30, .ref xa31, .ref xa32, .int 5, .int 0, .int 0, .int 0, .int 0, .int 0])), (xa29, .inl (kJ, 96, .inr (.inl (fun _ => 0)))), (xa30, .inl (kI, 30, .inl (fun _ => 0))), (xa31, .inl (kI, 12, .inl (fun _ => 0))), (xa32, .inl (kI, 12, .inl (fun _ => 0))), (xa55, .inr (0, [.ref xa56, .ref xa57, .ref xa58, .ref xa59, .int 5, .int 0, .int 0, .int 0, .int 0, .int 0])), (xa56, .inl (kJ, 96, .inr (.inl (fun _ => 0)))), (xa57, .inl (kI, 30, .inl (fun _ => 0))), (xa58, .inl (kI, 12, .inl (fun _ => 0))), (xa59, .inl (kI, 12, .inl (fun _ => 0))), (xa52, .inr (1, [.ref xa53, .int 0, .int 0])), (xa60, .inr (1, [.ref xa61, .int 0, .int 0])), (xa47, .inr (3, [.ref xa3, .ref xa45, .ref xa48, .ref xa49, .ref xa50, .ref xa51, .int 0, .int (-1), .int 0])), (xa48, .inl (kI, 8, .inl (fun _ => 0))), (xa49, .inl (kI, 8, .inl (fun _ => 0))), (xa50, .inl (kI, 8, .inl (fun _ => 0))), (xa51, .inl (kI, 8, .inl (fun _ => 0))), (xa62, .inr (3, [.ref xa3, .ref xa45, .ref xa63, .ref xa64, .ref xa65, .ref xa66, .int 0, .int (-1), .int 0])), (xa63, .inl (kI, 8, .inl (fun _ => 0))), (xa64, .inl (kI, 8, .inl (fun _ => 0))), (xa65, .inl (kI, 8, .inl (fun _ => 0))), (xa66, .inl (kI, 8, .inl (fun _ => 0))), (xa54, .inl (kI, 3, .inl (fun _ => 0))), (xa67, .inl (kI, 3, .inl (fun _ => 0)))])) (va_Qv (fun (_ : Unit) => True) (fun _ t => va_P (dC, dI) vwCl [] t.heap ∧ va_D (va_A [(h0, .inr (10, [.ref xa1, .ref xa3, .ref xa15, .ref xa27, .ref xa28, .ref xa33, .ref xa38, .ref xa41, .ref xa45, .ref xa46, .ref xa47, .ref xa52, .ref xa54, .int 0, .ref xa55, .ref xa60, .ref xa62, .ref xa67, .int (-1)])), (xa28, .inr (0, [.ref xa29, .ref xa30, .ref xa31, .ref xa32, .int 5, .int 0, .int 0, .int 0, .int 0, .int 0])), (xa29, .inl (kJ, 96, .inr (.inl (fun _ => 0)))), (xa30, .inl (kI, 30, .inl (fun _ => 0))), (xa31, .inl (kI, 12, .inl (fun _ => 0))), (xa32, .inl (kI, 12, .inl (fun _ => 0))), (xa55, .inr (0, [.ref xa56, .ref xa57, .ref xa58, .ref xa59, .int 5, .int 0, .int 0, .int 0, .int 0, .int 0])), (xa56, .inl (kJ, 96, .inr (.inl (fun _ => 0)))), (xa57, .inl (kI, 30, .inl (fun _ => 0))), (xa58, .inl (kI, 12, .inl (fun _ => 0))), (xa59, .inl (kI, 12, .inl (fun _ => 0))), (xa52, .inr (1, [.ref xa53, .int 0, .int 0])), (xa60, .inr (1, [.ref xa61, .int 0, .int 0])), (xa47, .inr (3, [.ref xa3, .ref xa45, .ref xa48, .ref xa49, .ref xa50, .ref xa51, .int 0, .int (-1), .int 0])), (xa48, .inl (kI, 8, .inl (fun _ => 0))), (xa49, .inl (kI, 8, .inl (fun _ => 0))), (xa50, .inl (kI, 8, .inl (fun _ => 0))), (xa51, .inl (kI, 8, .inl (fun _ => 0))), (xa62, .inr (3, [.ref xa3, .ref xa45, .ref xa63, .ref xa64, .ref xa65, .ref xa66, .int 0, .int (-1), .int 0])), (xa63, .inl (kI, 8, .inl (fun _ => 0))), (xa64, .inl (kI, 8, .inl (fun _ => 0))), (xa65, .inl (kI, 8, .inl (fun _ => 0))), (xa66, .inl (kI, 8, .inl (fun _ => 0))), (xa54, .inl (kI, 3, .inl (fun _ => 0))), (xa67, .inl (kI, 3, .inl (fun _ => 0)))] sz) []) (va_A [(h0, .inr (10, [.ref xa1, .ref xa3, .ref xa15, .ref xa27, .ref xa28, .ref xa33, .ref xa38, .ref xa41, .ref xa45, .ref xa46, .ref xa47, .ref xa52, .ref xa54, .int 0, .ref xa55, .ref xa60, .ref xa62, .ref xa67, .int (-1)])), (xa28, .inr (0, [.ref xa29, .ref xa30, .ref xa31, .ref xa32, .int 5, .int 0, .int 0, .int 0, .int 0, .int 0])), (xa29, .inl (kJ, 96, .inr (.inl (fun _ => 0)))), (xa30, .inl (kI, 30, .inl (fun _ => 0))), (xa31, .inl (kI, 12, .inl (fun _ => 0))), (xa32, .inl (kI, 12, .inl (fun _ => 0))), (xa55, .inr (0, [.ref xa56, .ref xa57, .ref xa58, .ref xa59, .int 5, .int 0, .int 0, .int 0, .int 0, .int 0])), (xa56, .inl (kJ, 96, .inr (.inl (fun _ => 0)))), (xa57, .inl (kI, 30, .inl (fun _ => 0))), (xa58, .inl (kI, 12, .inl (fun _ => 0))), (xa59, .inl (kI, 12, .inl (fun _ => 0))), (xa52, .inr (1, [.ref xa53, .int 0, .int 0])), (xa60, .inr (1, [.ref xa61, .int 0, .int 0])), (xa47, .inr (3, [.ref xa3, .ref xa45, .ref xa48, .ref xa49, .ref xa50, .ref xa51, .int 0, .int (-1), .int 0])), (xa48, .inl (kI, 8, .inl (fun _ => 0))), (xa49, .inl (kI, 8, .inl (fun _ => 0))), (xa50, .inl (kI, 8, .inl (fun _ => 0))), (xa51, .inl (kI, 8, .inl (fun _ => 0))), (xa62, .inr (3, [.ref xa3, .ref xa45, .ref xa63, .ref xa64, .ref xa65, .ref xa66, .int 0, .int (-1), .int 0])), (xa63, .inl (kI, 8, .inl (fun _ => 0))), (xa64, .inl (kI, 8, .inl (fun _ => 0))), (xa65, .inl (kI, 8, .inl (fun _ => 0))), (xa66, .inl (kI, 8, .inl (fun _ => 0))), (xa54, .inl (kI, 3, .inl (fun _ => 0))), (xa67, .inl (kI, 3, .inl (fun _ => 0)))] sz)) 0 0 (va_A [(h0, .inr (10, [.ref xa1, .ref xa3, .ref xa15, .ref xa27, .ref xa28, .ref xa33, .ref xa38, .ref xa41, .ref xa45, .ref xa46, .ref xa47, .ref xa52, .ref xa54, .int 0, .ref xa55, .ref xa60, .ref xa62, .ref xa67, .int (-1)])), (xa28, .inr (0, [.ref xa29, .ref xa30, .ref xa31, .ref xa32, .int 5, .int 0, .int 0, .int 0, .int 0, .int 0])), (xa29, .inl (kJ, 96, .inr (.inl (fun _ => 0)))), (xa30, .inl (kI, 30, .inl (fun _ => 0))), (xa31, .inl (kI, 12, .inl (fun _ => 0))), (xa32, .inl (kI, 12, .inl (fun _ => 0))), (xa55, .inr (0, [.ref xa56, .ref xa57, .ref xa58, .ref xa59, .int 5, .int 0, .int 0, .int 0, .int 0, .int 0])), (xa56, .inl (kJ, 96, .inr (.inl (fun _ => 0)))), (xa57, .inl (kI, 30, .inl (fun _ => 0))), (xa58, .inl (kI, 12, .inl (fun _ => 0))), (xa59, .inl (kI, 12, .inl (fun _ => 0))), (xa52, .inr (1, [.ref xa53, .int 0, .int 0])), (xa60, .inr (1, [.ref xa61, .int 0, .int 0])), (xa47, .inr (3, [.ref xa3, .ref xa45, .ref xa48, .ref xa49, .ref xa50, .ref xa51, .int 0, .int (-1), .int 0])), (xa48, .inl (kI, 8, .inl (fun _ => 0))), (xa49, .inl (kI, 8, .inl (fun _ => 0))), (xa50, .inl (kI, 8, .inl (fun _ => 0))), (xa51, .inl (kI, 8, .inl (fun _ => 0))), (xa62, .inr (3, [.ref xa3, .ref xa45, .ref xa63, .ref xa64, .ref xa65, .ref xa66, .int 0, .int (-1), .int 0])), (xa63, .inl (kI, 8, .inl (fun _ => 0))), (xa64, .inl (kI, 8, .inl (fun _ => 0))), (xa65, .inl (kI, 8, .inl (fun _ => 0))), (xa66, .inl (kI, 8, .inl (fun _ => 0))), (xa54, .inl (kI, 3, .inl (fun _ => 0))), (xa67, .inl (kI, 3, .inl (fun _ => 0)))] sz) := by
  refine Met.ofW (cc := cX10_image) (maxL := 1) (ret := none) (by decide) rfl ?_
  intro p e s m args0 below meth c s₁ B hml hv
  obtain ⟨hargs, hsz, hP, hE, hD0⟩ := hv
  have hx := B.exec
  have hb := B.bytes
  have hr := B.returns
  have hts := atoms_spec (ws := wsX10_image) B.pre
  have hown : s.vm.findClass RX10 = some m.cls := findClass_of_methodNamed B.named
  have hlocks := B.notSynchronized
  have hK := hE.1
  have hin10 : ∀ w ∈ wsX100, w ∈ wsX10_image := fun _ h9 => List.mem_cons_of_mem _ (List.mem_append_left _ (List.mem_append_left _ (List.mem_append_left _ (List.mem_append_right _ h9))))
  have hin0 : ∀ w ∈ wsX00, w ∈ wsX10_image := fun _ h9 => List.mem_cons_of_mem _ (List.mem_append_left _ (List.mem_append_left _ (List.mem_append_right _ h9)))
  have hin1 : ∀ w ∈ wsX10, w ∈ wsX10_image := fun _ h9 => List.mem_cons_of_mem _ (List.mem_append_left _ (List.mem_append_right _ h9))
  have hin3 : ∀ w ∈ wsX30, w ∈ wsX10_image := fun _ h9 => List.mem_cons_of_mem _ (List.mem_append_right _ h9)
  subst hsz
  have hD := hD0.self (sz := s.heap.size)
  generalize hAe : va_A [(h0, .inr (10, [.ref xa1, .ref xa3, .ref xa15, .ref xa27, .ref xa28, .ref xa33, .ref xa38, .ref xa41, .ref xa45, .ref xa46, .ref xa47, .ref xa52, .ref xa54, .int 0, .ref xa55, .ref xa60, .ref xa62, .ref xa67, .int (-1)])), (xa28, .inr (0, [.ref xa29, .ref xa30, .ref xa31, .ref xa32, .int 5, .int 0, .int 0, .int 0, .int 0, .int 0])), (xa29, .inl (kJ, 96, .inr (.inl (fun _ => 0)))), (xa30, .inl (kI, 30, .inl (fun _ => 0))), (xa31, .inl (kI, 12, .inl (fun _ => 0))), (xa32, .inl (kI, 12, .inl (fun _ => 0))), (xa55, .inr (0, [.ref xa56, .ref xa57, .ref xa58, .ref xa59, .int 5, .int 0, .int 0, .int 0, .int 0, .int 0])), (xa56, .inl (kJ, 96, .inr (.inl (fun _ => 0)))), (xa57, .inl (kI, 30, .inl (fun _ => 0))), (xa58, .inl (kI, 12, .inl (fun _ => 0))), (xa59, .inl (kI, 12, .inl (fun _ => 0))), (xa52, .inr (1, [.ref xa53, .int 0, .int 0])), (xa60, .inr (1, [.ref xa61, .int 0, .int 0])), (xa47, .inr (3, [.ref xa3, .ref xa45, .ref xa48, .ref xa49, .ref xa50, .ref xa51, .int 0, .int (-1), .int 0])), (xa48, .inl (kI, 8, .inl (fun _ => 0))), (xa49, .inl (kI, 8, .inl (fun _ => 0))), (xa50, .inl (kI, 8, .inl (fun _ => 0))), (xa51, .inl (kI, 8, .inl (fun _ => 0))), (xa62, .inr (3, [.ref xa3, .ref xa45, .ref xa63, .ref xa64, .ref xa65, .ref xa66, .int 0, .int (-1), .int 0])), (xa63, .inl (kI, 8, .inl (fun _ => 0))), (xa64, .inl (kI, 8, .inl (fun _ => 0))), (xa65, .inl (kI, 8, .inl (fun _ => 0))), (xa66, .inl (kI, 8, .inl (fun _ => 0))), (xa54, .inl (kI, 3, .inl (fun _ => 0))), (xa67, .inl (kI, 3, .inl (fun _ => 0)))] s.heap.size = A at hD ⊢
  have hA : ∀ q : Nat, s.heap.size ≤ q → A q := fun q h => by rw [← hAe]; exact Or.inr h
  have hS : va_S A s.heap s.heap [] := va_S.rf
  have hP : va_P (dC, dI) vwCl [(h0, .inr (10, [.ref xa1, .ref xa3, .ref xa15, .ref xa27, .ref xa28, .ref xa33, .ref xa38, .ref xa41, .ref xa45, .ref xa46, .ref xa47, .ref xa52, .ref xa54, .int 0, .ref xa55, .ref xa60, .ref xa62, .ref xa67, .int (-1)])), (xa28, .inr (0, [.ref xa29, .ref xa30, .ref xa31, .ref xa32, .int 5, .int 0, .int 0, .int 0, .int 0, .int 0])), (xa29, .inl (kJ, 96, .inr (.inl (fun _ => 0)))), (xa30, .inl (kI, 30, .inl (fun _ => 0))), (xa31, .inl (kI, 12, .inl (fun _ => 0))), (xa32, .inl (kI, 12, .inl (fun _ => 0))), (xa55, .inr (0, [.ref xa56, .ref xa57, .ref xa58, .ref xa59, .int 5, .int 0, .int 0, .int 0, .int 0, .int 0])), (xa56, .inl (kJ, 96, .inr (.inl (fun _ => 0)))), (xa57, .inl (kI, 30, .inl (fun _ => 0))), (xa58, .inl (kI, 12, .inl (fun _ => 0))), (xa59, .inl (kI, 12, .inl (fun _ => 0))), (xa52, .inr (1, [.ref xa53, .int 0, .int 0])), (xa60, .inr (1, [.ref xa61, .int 0, .int 0])), (xa47, .inr (3, [.ref xa3, .ref xa45, .ref xa48, .ref xa49, .ref xa50, .ref xa51, .int 0, .int (-1), .int 0])), (xa48, .inl (kI, 8, .inl (fun _ => 0))), (xa49, .inl (kI, 8, .inl (fun _ => 0))), (xa50, .inl (kI, 8, .inl (fun _ => 0))), (xa51, .inl (kI, 8, .inl (fun _ => 0))), (xa62, .inr (3, [.ref xa3, .ref xa45, .ref xa63, .ref xa64, .ref xa65, .ref xa66, .int 0, .int (-1), .int 0])), (xa63, .inl (kI, 8, .inl (fun _ => 0))), (xa64, .inl (kI, 8, .inl (fun _ => 0))), (xa65, .inl (kI, 8, .inl (fun _ => 0))), (xa66, .inl (kI, 8, .inl (fun _ => 0))), (xa54, .inl (kI, 3, .inl (fun _ => 0))), (xa67, .inl (kI, 3, .inl (fun _ => 0)))] s.heap := hP
  have hl := lv_entry ([.ref h0]) (n := 1) (Nat.le_of_ble_eq_true rfl)
  have hla : entryFrame m args0 1 = entryFrame m ([.ref h0] : List Value).toArray 1 := by rw [hargs]
  rw [hla, lg_entry_eq]
  generalize (lg_sl ([.ref h0]) ++ List.replicate (1 - (lg_sl ([.ref h0])).length) Slot.unset).toArray = ls at hl ⊢
  have hl : lv_has ls 1 [(0, .ref h0)] := hl
  refine lv_aload_n hx hb dX10_image_0 rfl (lv_at hl 0 rfl) ?_
  refine lv_iconst (v := 1) hx hb dX10_image_1 (by decide) ?_
  refine va_put (D := (dC, dI)) (ci := 10) (v := .int 1) (ty := .boolean) (C := RX10) (T := TX10) (N := 19) hx hb hts hin10 tyX10 tyX10_ok nmX10 hown hK hP hD hS 0 rfl rfl 13 (by decide) (hts (.fieldLink RX10 97 "PathProber" "imageKept" "Z") (List.mem_of_getElem? (i := 1) (by decide +kernel))) (fun _ h9 => h9) rfl (by decide +kernel) rfl rfl (Nat.le_of_ble_eq_true rfl) dX10_image_2 (fun H locs hP hD hS => ?_)
  have hP : va_P (dC, dI) vwCl [(h0, .inr (10, [.ref xa1, .ref xa3, .ref xa15, .ref xa27, .ref xa28, .ref xa33, .ref xa38, .ref xa41, .ref xa45, .ref xa46, .ref xa47, .ref xa52, .ref xa54, .int 1, .ref xa55, .ref xa60, .ref xa62, .ref xa67, .int (-1)])), (xa28, .inr (0, [.ref xa29, .ref xa30, .ref xa31, .ref xa32, .int 5, .int 0, .int 0, .int 0, .int 0, .int 0])), (xa29, .inl (kJ, 96, .inr (.inl (fun _ => 0)))), (xa30, .inl (kI, 30, .inl (fun _ => 0))), (xa31, .inl (kI, 12, .inl (fun _ => 0))), (xa32, .inl (kI, 12, .inl (fun _ => 0))), (xa55, .inr (0, [.ref xa56, .ref xa57, .ref xa58, .ref xa59, .int 5, .int 0, .int 0, .int 0, .int 0, .int 0])), (xa56, .inl (kJ, 96, .inr (.inl (fun _ => 0)))), (xa57, .inl (kI, 30, .inl (fun _ => 0))), (xa58, .inl (kI, 12, .inl (fun _ => 0))), (xa59, .inl (kI, 12, .inl (fun _ => 0))), (xa52, .inr (1, [.ref xa53, .int 0, .int 0])), (xa60, .inr (1, [.ref xa61, .int 0, .int 0])), (xa47, .inr (3, [.ref xa3, .ref xa45, .ref xa48, .ref xa49, .ref xa50, .ref xa51, .int 0, .int (-1), .int 0])), (xa48, .inl (kI, 8, .inl (fun _ => 0))), (xa49, .inl (kI, 8, .inl (fun _ => 0))), (xa50, .inl (kI, 8, .inl (fun _ => 0))), (xa51, .inl (kI, 8, .inl (fun _ => 0))), (xa62, .inr (3, [.ref xa3, .ref xa45, .ref xa63, .ref xa64, .ref xa65, .ref xa66, .int 0, .int (-1), .int 0])), (xa63, .inl (kI, 8, .inl (fun _ => 0))), (xa64, .inl (kI, 8, .inl (fun _ => 0))), (xa65, .inl (kI, 8, .inl (fun _ => 0))), (xa66, .inl (kI, 8, .inl (fun _ => 0))), (xa54, .inl (kI, 3, .inl (fun _ => 0))), (xa67, .inl (kI, 3, .inl (fun _ => 0)))] H := hP
  have hD : va_D A [(h0, .inr (10, [.ref xa1, .ref xa3, .ref xa15, .ref xa27, .ref xa28, .ref xa33, .ref xa38, .ref xa41, .ref xa45, .ref xa46, .ref xa47, .ref xa52, .ref xa54, .int 1, .ref xa55, .ref xa60, .ref xa62, .ref xa67, .int (-1)])), (xa28, .inr (0, [.ref xa29, .ref xa30, .ref xa31, .ref xa32, .int 5, .int 0, .int 0, .int 0, .int 0, .int 0])), (xa29, .inl (kJ, 96, .inr (.inl (fun _ => 0)))), (xa30, .inl (kI, 30, .inl (fun _ => 0))), (xa31, .inl (kI, 12, .inl (fun _ => 0))), (xa32, .inl (kI, 12, .inl (fun _ => 0))), (xa55, .inr (0, [.ref xa56, .ref xa57, .ref xa58, .ref xa59, .int 5, .int 0, .int 0, .int 0, .int 0, .int 0])), (xa56, .inl (kJ, 96, .inr (.inl (fun _ => 0)))), (xa57, .inl (kI, 30, .inl (fun _ => 0))), (xa58, .inl (kI, 12, .inl (fun _ => 0))), (xa59, .inl (kI, 12, .inl (fun _ => 0))), (xa52, .inr (1, [.ref xa53, .int 0, .int 0])), (xa60, .inr (1, [.ref xa61, .int 0, .int 0])), (xa47, .inr (3, [.ref xa3, .ref xa45, .ref xa48, .ref xa49, .ref xa50, .ref xa51, .int 0, .int (-1), .int 0])), (xa48, .inl (kI, 8, .inl (fun _ => 0))), (xa49, .inl (kI, 8, .inl (fun _ => 0))), (xa50, .inl (kI, 8, .inl (fun _ => 0))), (xa51, .inl (kI, 8, .inl (fun _ => 0))), (xa62, .inr (3, [.ref xa3, .ref xa45, .ref xa63, .ref xa64, .ref xa65, .ref xa66, .int 0, .int (-1), .int 0])), (xa63, .inl (kI, 8, .inl (fun _ => 0))), (xa64, .inl (kI, 8, .inl (fun _ => 0))), (xa65, .inl (kI, 8, .inl (fun _ => 0))), (xa66, .inl (kI, 8, .inl (fun _ => 0))), (xa54, .inl (kI, 3, .inl (fun _ => 0))), (xa67, .inl (kI, 3, .inl (fun _ => 0)))] := hD
  refine lv_aload_n hx hb dX10_image_5 rfl (lv_at hl 0 rfl) ?_
  refine va_get (D := (dC, dI)) (ci := 10) (v := .ref xa55) (C := RX10) (T := TX10) (N := 19) hx hb hts hin10 hown hK hP 0 rfl rfl 14 (by decide) (hts (.fieldLink RX10 101 "PathProber" "imageNow" "LPathProber$Condition;") (List.mem_of_getElem? (i := 2) (by decide +kernel))) (fun _ h9 => h9) rfl dX10_image_6 ?_
  refine lv_aload_n hx hb dX10_image_9 rfl (lv_at hl 0 rfl) ?_
  refine va_get (D := (dC, dI)) (ci := 10) (v := .ref xa28) (C := RX10) (T := TX10) (N := 19) hx hb hts hin10 hown hK hP 0 rfl rfl 4 (by decide) (hts (.fieldLink RX10 38 "PathProber" "now" "LPathProber$Condition;") (List.mem_of_getElem? (i := 3) (by decide +kernel))) (fun _ h9 => h9) rfl dX10_image_10 ?_
  have hPc := hP.sub (ws' := [(xa55, .inr (0, [.ref xa56, .ref xa57, .ref xa58, .ref xa59, .int 5, .int 0, .int 0, .int 0, .int 0, .int 0])), (xa56, .inl (kJ, 96, .inr (.inl (fun _ => 0)))), (xa57, .inl (kI, 30, .inl (fun _ => 0))), (xa58, .inl (kI, 12, .inl (fun _ => 0))), (xa59, .inl (kI, 12, .inl (fun _ => 0))), (xa28, .inr (0, [.ref xa29, .ref xa30, .ref xa31, .ref xa32, .int 5, .int 0, .int 0, .int 0, .int 0, .int 0])), (xa29, .inl (kJ, 96, .inr (.inl (fun _ => 0)))), (xa30, .inl (kI, 30, .inl (fun _ => 0))), (xa31, .inl (kI, 12, .inl (fun _ => 0))), (xa32, .inl (kI, 12, .inl (fun _ => 0)))]) [6, 7, 8, 9, 10, 1, 2, 3, 4, 5] rfl
  have hDc := hD.sub (ws' := [(xa55, .inr (0, [.ref xa56, .ref xa57, .ref xa58, .ref xa59, .int 5, .int 0, .int 0, .int 0, .int 0, .int 0])), (xa56, .inl (kJ, 96, .inr (.inl (fun _ => 0)))), (xa57, .inl (kI, 30, .inl (fun _ => 0))), (xa58, .inl (kI, 12, .inl (fun _ => 0))), (xa59, .inl (kI, 12, .inl (fun _ => 0))), (xa28, .inr (0, [.ref xa29, .ref xa30, .ref xa31, .ref xa32, .int 5, .int 0, .int 0, .int 0, .int 0, .int 0])), (xa29, .inl (kJ, 96, .inr (.inl (fun _ => 0)))), (xa30, .inl (kI, 30, .inl (fun _ => 0))), (xa31, .inl (kI, 12, .inl (fun _ => 0))), (xa32, .inl (kI, 12, .inl (fun _ => 0)))]) [6, 7, 8, 9, 10, 1, 2, 3, 4, 5] (by decide) rfl
  have hFc := va_free (wc := [(xa55, .inr (0, [.ref xa56, .ref xa57, .ref xa58, .ref xa59, .int 5, .int 0, .int 0, .int 0, .int 0, .int 0])), (xa56, .inl (kJ, 96, .inr (.inl (fun _ => 0)))), (xa57, .inl (kI, 30, .inl (fun _ => 0))), (xa58, .inl (kI, 12, .inl (fun _ => 0))), (xa59, .inl (kI, 12, .inl (fun _ => 0))), (xa28, .inr (0, [.ref xa29, .ref xa30, .ref xa31, .ref xa32, .int 5, .int 0, .int 0, .int 0, .int 0, .int 0])), (xa29, .inl (kJ, 96, .inr (.inl (fun _ => 0)))), (xa30, .inl (kI, 30, .inl (fun _ => 0))), (xa31, .inl (kI, 12, .inl (fun _ => 0))), (xa32, .inl (kI, 12, .inl (fun _ => 0)))]) hD hS hA [6, 7, 8, 9, 10, 1, 2, 3, 4, 5] rfl
  refine va_callv (va_runV (As := [.ref xa28]) (rest := []) ⟨hx, hb, hml, hown, hts⟩ (k0_copyFrom l dC dI kB kI kJ kZ kC kS H.size xa55 xa56 xa57 xa58 xa59 xa28 xa29 xa30 xa31 xa32 5 0 0 0 0 0 5 0 0 0 0 0 (fun _ => 0) (fun _ => 0) (fun _ => 0) (fun _ => 0) (fun _ => 0) (fun _ => 0) (fun _ => 0) (fun _ => 0)) (cwV 1 hts gX10_image_X0_copyFrom rfl rfl rfl (by decide +kernel) ⟨Nat.le_of_ble_eq_true rfl, Nat.le_of_ble_eq_true rfl⟩) ⟨fun a U g mk q => by obtain ⟨q0, q1, qP, qE, qD⟩ := q; exact ⟨q0, q1, qP, kE_call qE, qD⟩, va_recv hK hP (ci := 0) (q0 := 6) rfl rfl, fun U hU hW => ⟨rfl, by rw [hU], by rw [hU]; exact hPc, kE_warm hW hE, hDc.weaken (fun _ _ _ _ => trivial)⟩⟩ rfl rfl hl.1 rfl (lv_room (Nat.le_of_ble_eq_true rfl)) dX10_image_13 ⟨Nat.le_of_ble_eq_true rfl, Nat.le_of_ble_eq_true rfl⟩) hS (fun q _ h => hFc q h) hFc (fun u t H1 locs ht hvm w2 hB hz1 hk1 hS => ?_)
  obtain ⟨g_3, g_4, g_5, g_6, hP1, hD1⟩ := hB
  rw [ht] at hP1
  try dsimp only at w2
  obtain ⟨hP, hD⟩ := va_join (wr := [(h0, .inr (10, [.ref xa1, .ref xa3, .ref xa15, .ref xa27, .ref xa28, .ref xa33, .ref xa38, .ref xa41, .ref xa45, .ref xa46, .ref xa47, .ref xa52, .ref xa54, .int 1, .ref xa55, .ref xa60, .ref xa62, .ref xa67, .int (-1)])), (xa52, .inr (1, [.ref xa53, .int 0, .int 0])), (xa60, .inr (1, [.ref xa61, .int 0, .int 0])), (xa47, .inr (3, [.ref xa3, .ref xa45, .ref xa48, .ref xa49, .ref xa50, .ref xa51, .int 0, .int (-1), .int 0])), (xa48, .inl (kI, 8, .inl (fun _ => 0))), (xa49, .inl (kI, 8, .inl (fun _ => 0))), (xa50, .inl (kI, 8, .inl (fun _ => 0))), (xa51, .inl (kI, 8, .inl (fun _ => 0))), (xa62, .inr (3, [.ref xa3, .ref xa45, .ref xa63, .ref xa64, .ref xa65, .ref xa66, .int 0, .int (-1), .int 0])), (xa63, .inl (kI, 8, .inl (fun _ => 0))), (xa64, .inl (kI, 8, .inl (fun _ => 0))), (xa65, .inl (kI, 8, .inl (fun _ => 0))), (xa66, .inl (kI, 8, .inl (fun _ => 0))), (xa54, .inl (kI, 3, .inl (fun _ => 0))), (xa67, .inl (kI, 3, .inl (fun _ => 0)))]) (w1 := [(xa55, .inr (0, [.ref xa56, .ref xa57, .ref xa58, .ref xa59, .int 5, .int 0, .int 0, .int 0, .int 0, .int 0])), (xa56, .inl (kJ, 96, .inr (.inl g_3))), (xa57, .inl (kI, 30, .inl g_4)), (xa58, .inl (kI, 12, .inl g_5)), (xa59, .inl (kI, 12, .inl g_6)), (xa28, .inr (0, [.ref xa29, .ref xa30, .ref xa31, .ref xa32, .int 5, .int 0, .int 0, .int 0, .int 0, .int 0])), (xa29, .inl (kJ, 96, .inr (.inl (fun _ => 0)))), (xa30, .inl (kI, 30, .inl (fun _ => 0))), (xa31, .inl (kI, 12, .inl (fun _ => 0))), (xa32, .inl (kI, 12, .inl (fun _ => 0)))]) hP hD [6, 7, 8, 9, 10, 1, 2, 3, 4, 5] [0, 11, 12, 13, 14, 15, 16, 17, 18, 19, 20, 21, 22, 23, 24] rfl rfl (by decide) (by decide) hk1 hFc hP1 hD1
  generalize H1 = H at hP hS ⊢
  have hP : va_P (dC, dI) vwCl [(h0, .inr (10, [.ref xa1, .ref xa3, .ref xa15, .ref xa27, .ref xa28, .ref xa33, .ref xa38, .ref xa41, .ref xa45, .ref xa46, .ref xa47, .ref xa52, .ref xa54, .int 1, .ref xa55, .ref xa60, .ref xa62, .ref xa67, .int (-1)])), (xa52, .inr (1, [.ref xa53, .int 0, .int 0])), (xa60, .inr (1, [.ref xa61, .int 0, .int 0])), (xa47, .inr (3, [.ref xa3, .ref xa45, .ref xa48, .ref xa49, .ref xa50, .ref xa51, .int 0, .int (-1), .int 0])), (xa48, .inl (kI, 8, .inl (fun _ => 0))), (xa49, .inl (kI, 8, .inl (fun _ => 0))), (xa50, .inl (kI, 8, .inl (fun _ => 0))), (xa51, .inl (kI, 8, .inl (fun _ => 0))), (xa62, .inr (3, [.ref xa3, .ref xa45, .ref xa63, .ref xa64, .ref xa65, .ref xa66, .int 0, .int (-1), .int 0])), (xa63, .inl (kI, 8, .inl (fun _ => 0))), (xa64, .inl (kI, 8, .inl (fun _ => 0))), (xa65, .inl (kI, 8, .inl (fun _ => 0))), (xa66, .inl (kI, 8, .inl (fun _ => 0))), (xa54, .inl (kI, 3, .inl (fun _ => 0))), (xa67, .inl (kI, 3, .inl (fun _ => 0))), (xa55, .inr (0, [.ref xa56, .ref xa57, .ref xa58, .ref xa59, .int 5, .int 0, .int 0, .int 0, .int 0, .int 0])), (xa56, .inl (kJ, 96, .inr (.inl g_3))), (xa57, .inl (kI, 30, .inl g_4)), (xa58, .inl (kI, 12, .inl g_5)), (xa59, .inl (kI, 12, .inl g_6)), (xa28, .inr (0, [.ref xa29, .ref xa30, .ref xa31, .ref xa32, .int 5, .int 0, .int 0, .int 0, .int 0, .int 0])), (xa29, .inl (kJ, 96, .inr (.inl (fun _ => 0)))), (xa30, .inl (kI, 30, .inl (fun _ => 0))), (xa31, .inl (kI, 12, .inl (fun _ => 0))), (xa32, .inl (kI, 12, .inl (fun _ => 0)))] H := hP
  have hD : va_D A [(h0, .inr (10, [.ref xa1, .ref xa3, .ref xa15, .ref xa27, .ref xa28, .ref xa33, .ref xa38, .ref xa41, .ref xa45, .ref xa46, .ref xa47, .ref xa52, .ref xa54, .int 1, .ref xa55, .ref xa60, .ref xa62, .ref xa67, .int (-1)])), (xa52, .inr (1, [.ref xa53, .int 0, .int 0])), (xa60, .inr (1, [.ref xa61, .int 0, .int 0])), (xa47, .inr (3, [.ref xa3, .ref xa45, .ref xa48, .ref xa49, .ref xa50, .ref xa51, .int 0, .int (-1), .int 0])), (xa48, .inl (kI, 8, .inl (fun _ => 0))), (xa49, .inl (kI, 8, .inl (fun _ => 0))), (xa50, .inl (kI, 8, .inl (fun _ => 0))), (xa51, .inl (kI, 8, .inl (fun _ => 0))), (xa62, .inr (3, [.ref xa3, .ref xa45, .ref xa63, .ref xa64, .ref xa65, .ref xa66, .int 0, .int (-1), .int 0])), (xa63, .inl (kI, 8, .inl (fun _ => 0))), (xa64, .inl (kI, 8, .inl (fun _ => 0))), (xa65, .inl (kI, 8, .inl (fun _ => 0))), (xa66, .inl (kI, 8, .inl (fun _ => 0))), (xa54, .inl (kI, 3, .inl (fun _ => 0))), (xa67, .inl (kI, 3, .inl (fun _ => 0))), (xa55, .inr (0, [.ref xa56, .ref xa57, .ref xa58, .ref xa59, .int 5, .int 0, .int 0, .int 0, .int 0, .int 0])), (xa56, .inl (kJ, 96, .inr (.inl g_3))), (xa57, .inl (kI, 30, .inl g_4)), (xa58, .inl (kI, 12, .inl g_5)), (xa59, .inl (kI, 12, .inl g_6)), (xa28, .inr (0, [.ref xa29, .ref xa30, .ref xa31, .ref xa32, .int 5, .int 0, .int 0, .int 0, .int 0, .int 0])), (xa29, .inl (kJ, 96, .inr (.inl (fun _ => 0)))), (xa30, .inl (kI, 30, .inl (fun _ => 0))), (xa31, .inl (kI, 12, .inl (fun _ => 0))), (xa32, .inl (kI, 12, .inl (fun _ => 0)))] := hD
  refine W.widen (k := 0) (n := 0) (Nat.le_of_ble_eq_true rfl) (Nat.le_of_ble_eq_true rfl) ?_
  refine lv_aload_n hx hb dX10_image_16 rfl (lv_at hl 0 rfl) ?_
  refine va_get (D := (dC, dI)) (ci := 10) (v := .ref xa60) (C := RX10) (T := TX10) (N := 19) hx hb hts hin10 hown hK hP 0 rfl rfl 15 (by decide) (hts (.fieldLink RX10 104 "PathProber" "imageHistory" "LPathProber$History;") (List.mem_of_getElem? (i := 4) (by decide +kernel))) (fun _ h9 => h9) rfl dX10_image_17 ?_
  refine lv_aload_n hx hb dX10_image_20 rfl (lv_at hl 0 rfl) ?_
  refine va_get (D := (dC, dI)) (ci := 10) (v := .ref xa52) (C := RX10) (T := TX10) (N := 19) hx hb hts hin10 hown hK hP 0 rfl rfl 11 (by decide) (hts (.fieldLink RX10 89 "PathProber" "history" "LPathProber$History;") (List.mem_of_getElem? (i := 5) (by decide +kernel))) (fun _ h9 => h9) rfl dX10_image_21 ?_
  have hPc := hP.sub (ws' := [(xa60, .inr (1, [.ref xa61, .int 0, .int 0])), (xa52, .inr (1, [.ref xa53, .int 0, .int 0]))]) [2, 1] rfl
  have hDc := hD.sub (ws' := [(xa60, .inr (1, [.ref xa61, .int 0, .int 0])), (xa52, .inr (1, [.ref xa53, .int 0, .int 0]))]) [2, 1] (by decide) rfl
  have hFc := va_free (wc := [(xa60, .inr (1, [.ref xa61, .int 0, .int 0])), (xa52, .inr (1, [.ref xa53, .int 0, .int 0]))]) hD hS hA [2, 1] rfl
  refine va_callv (va_runV (As := [.ref xa52]) (rest := []) ⟨hx, hb, hml, hown, hts⟩ (k1_copyFrom l dC dI kB kI kJ kZ kC kS H.size xa60 xa61 xa52 xa53) (cwV 1 hts gX10_image_X1_copyFrom rfl rfl rfl (by decide +kernel) ⟨Nat.le_of_ble_eq_true rfl, Nat.le_of_ble_eq_true rfl⟩) ⟨fun a U g mk q => by obtain ⟨q0, q1, qP, qE, qD⟩ := q; exact ⟨q0, q1, qP, kE_call qE, qD⟩, va_recv hK hP (ci := 1) (q0 := 2) rfl rfl, fun U hU hW => ⟨rfl, by rw [hU], by rw [hU]; exact hPc, kE_warm hW hE, hDc.weaken (fun _ _ _ _ => trivial)⟩⟩ rfl rfl hl.1 rfl (lv_room (Nat.le_of_ble_eq_true rfl)) dX10_image_24 ⟨Nat.le_of_ble_eq_true rfl, Nat.le_of_ble_eq_true rfl⟩) hS (fun q _ h => hFc q h) hFc (fun u t H1 locs ht hvm w8 hB hz1 hk1 hS => ?_)
  obtain ⟨hP1, hD1⟩ := hB
  rw [ht] at hP1
  try dsimp only at w8
  obtain ⟨hP, hD⟩ := va_join (wr := [(h0, .inr (10, [.ref xa1, .ref xa3, .ref xa15, .ref xa27, .ref xa28, .ref xa33, .ref xa38, .ref xa41, .ref xa45, .ref xa46, .ref xa47, .ref xa52, .ref xa54, .int 1, .ref xa55, .ref xa60, .ref xa62, .ref xa67, .int (-1)])), (xa47, .inr (3, [.ref xa3, .ref xa45, .ref xa48, .ref xa49, .ref xa50, .ref xa51, .int 0, .int (-1), .int 0])), (xa48, .inl (kI, 8, .inl (fun _ => 0))), (xa49, .inl (kI, 8, .inl (fun _ => 0))), (xa50, .inl (kI, 8, .inl (fun _ => 0))), (xa51, .inl (kI, 8, .inl (fun _ => 0))), (xa62, .inr (3, [.ref xa3, .ref xa45, .ref xa63, .ref xa64, .ref xa65, .ref xa66, .int 0, .int (-1), .int 0])), (xa63, .inl (kI, 8, .inl (fun _ => 0))), (xa64, .inl (kI, 8, .inl (fun _ => 0))), (xa65, .inl (kI, 8, .inl (fun _ => 0))), (xa66, .inl (kI, 8, .inl (fun _ => 0))), (xa54, .inl (kI, 3, .inl (fun _ => 0))), (xa67, .inl (kI, 3, .inl (fun _ => 0))), (xa55, .inr (0, [.ref xa56, .ref xa57, .ref xa58, .ref xa59, .int 5, .int 0, .int 0, .int 0, .int 0, .int 0])), (xa56, .inl (kJ, 96, .inr (.inl g_3))), (xa57, .inl (kI, 30, .inl g_4)), (xa58, .inl (kI, 12, .inl g_5)), (xa59, .inl (kI, 12, .inl g_6)), (xa28, .inr (0, [.ref xa29, .ref xa30, .ref xa31, .ref xa32, .int 5, .int 0, .int 0, .int 0, .int 0, .int 0])), (xa29, .inl (kJ, 96, .inr (.inl (fun _ => 0)))), (xa30, .inl (kI, 30, .inl (fun _ => 0))), (xa31, .inl (kI, 12, .inl (fun _ => 0))), (xa32, .inl (kI, 12, .inl (fun _ => 0)))]) (w1 := [(xa60, .inr (1, [.ref xa61, .int 0, .int 0])), (xa52, .inr (1, [.ref xa53, .int 0, .int 0]))]) hP hD [2, 1] [0, 3, 4, 5, 6, 7, 8, 9, 10, 11, 12, 13, 14, 15, 16, 17, 18, 19, 20, 21, 22, 23, 24] rfl rfl (by decide) (by decide) hk1 hFc hP1 hD1
  generalize H1 = H at hP hS ⊢
  have hP : va_P (dC, dI) vwCl [(h0, .inr (10, [.ref xa1, .ref xa3, .ref xa15, .ref xa27, .ref xa28, .ref xa33, .ref xa38, .ref xa41, .ref xa45, .ref xa46, .ref xa47, .ref xa52, .ref xa54, .int 1, .ref xa55, .ref xa60, .ref xa62, .ref xa67, .int (-1)])), (xa47, .inr (3, [.ref xa3, .ref xa45, .ref xa48, .ref xa49, .ref xa50, .ref xa51, .int 0, .int (-1), .int 0])), (xa48, .inl (kI, 8, .inl (fun _ => 0))), (xa49, .inl (kI, 8, .inl (fun _ => 0))), (xa50, .inl (kI, 8, .inl (fun _ => 0))), (xa51, .inl (kI, 8, .inl (fun _ => 0))), (xa62, .inr (3, [.ref xa3, .ref xa45, .ref xa63, .ref xa64, .ref xa65, .ref xa66, .int 0, .int (-1), .int 0])), (xa63, .inl (kI, 8, .inl (fun _ => 0))), (xa64, .inl (kI, 8, .inl (fun _ => 0))), (xa65, .inl (kI, 8, .inl (fun _ => 0))), (xa66, .inl (kI, 8, .inl (fun _ => 0))), (xa54, .inl (kI, 3, .inl (fun _ => 0))), (xa67, .inl (kI, 3, .inl (fun _ => 0))), (xa55, .inr (0, [.ref xa56, .ref xa57, .ref xa58, .ref xa59, .int 5, .int 0, .int 0, .int 0, .int 0, .int 0])), (xa56, .inl (kJ, 96, .inr (.inl g_3))), (xa57, .inl (kI, 30, .inl g_4)), (xa58, .inl (kI, 12, .inl g_5)), (xa59, .inl (kI, 12, .inl g_6)), (xa28, .inr (0, [.ref xa29, .ref xa30, .ref xa31, .ref xa32, .int 5, .int 0, .int 0, .int 0, .int 0, .int 0])), (xa29, .inl (kJ, 96, .inr (.inl (fun _ => 0)))), (xa30, .inl (kI, 30, .inl (fun _ => 0))), (xa31, .inl (kI, 12, .inl (fun _ => 0))), (xa32, .inl (kI, 12, .inl (fun _ => 0))), (xa60, .inr (1, [.ref xa61, .int 0, .int 0])), (xa52, .inr (1, [.ref xa53, .int 0, .int 0]))] H := hP
  have hD : va_D A [(h0, .inr (10, [.ref xa1, .ref xa3, .ref xa15, .ref xa27, .ref xa28, .ref xa33, .ref xa38, .ref xa41, .ref xa45, .ref xa46, .ref xa47, .ref xa52, .ref xa54, .int 1, .ref xa55, .ref xa60, .ref xa62, .ref xa67, .int (-1)])), (xa47, .inr (3, [.ref xa3, .ref xa45, .ref xa48, .ref xa49, .ref xa50, .ref xa51, .int 0, .int (-1), .int 0])), (xa48, .inl (kI, 8, .inl (fun _ => 0))), (xa49, .inl (kI, 8, .inl (fun _ => 0))), (xa50, .inl (kI, 8, .inl (fun _ => 0))), (xa51, .inl (kI, 8, .inl (fun _ => 0))), (xa62, .inr (3, [.ref xa3, .ref xa45, .ref xa63, .ref xa64, .ref xa65, .ref xa66, .int 0, .int (-1), .int 0])), (xa63, .inl (kI, 8, .inl (fun _ => 0))), (xa64, .inl (kI, 8, .inl (fun _ => 0))), (xa65, .inl (kI, 8, .inl (fun _ => 0))), (xa66, .inl (kI, 8, .inl (fun _ => 0))), (xa54, .inl (kI, 3, .inl (fun _ => 0))), (xa67, .inl (kI, 3, .inl (fun _ => 0))), (xa55, .inr (0, [.ref xa56, .ref xa57, .ref xa58, .ref xa59, .int 5, .int 0, .int 0, .int 0, .int 0, .int 0])), (xa56, .inl (kJ, 96, .inr (.inl g_3))), (xa57, .inl (kI, 30, .inl g_4)), (xa58, .inl (kI, 12, .inl g_5)), (xa59, .inl (kI, 12, .inl g_6)), (xa28, .inr (0, [.ref xa29, .ref xa30, .ref xa31, .ref xa32, .int 5, .int 0, .int 0, .int 0, .int 0, .int 0])), (xa29, .inl (kJ, 96, .inr (.inl (fun _ => 0)))), (xa30, .inl (kI, 30, .inl (fun _ => 0))), (xa31, .inl (kI, 12, .inl (fun _ => 0))), (xa32, .inl (kI, 12, .inl (fun _ => 0))), (xa60, .inr (1, [.ref xa61, .int 0, .int 0])), (xa52, .inr (1, [.ref xa53, .int 0, .int 0]))] := hD
  refine W.widen (k := 0) (n := 0) (Nat.le_of_ble_eq_true rfl) (Nat.le_of_ble_eq_true rfl) ?_
  refine lv_aload_n hx hb dX10_image_27 rfl (lv_at hl 0 rfl) ?_
  refine va_get (D := (dC, dI)) (ci := 10) (v := .ref xa62) (C := RX10) (T := TX10) (N := 19) hx hb hts hin10 hown hK hP 0 rfl rfl 16 (by decide) (hts (.fieldLink RX10 107 "PathProber" "imageNotebook" "LPathProber$Notebook;") (List.mem_of_getElem? (i := 6) (by decide +kernel))) (fun _ h9 => h9) rfl dX10_image_28 ?_
  refine lv_aload_n hx hb dX10_image_31 rfl (lv_at hl 0 rfl) ?_
  refine va_get (D := (dC, dI)) (ci := 10) (v := .ref xa47) (C := RX10) (T := TX10) (N := 19) hx hb hts hin10 hown hK hP 0 rfl rfl 10 (by decide) (hts (.fieldLink RX10 82 "PathProber" "notebook" "LPathProber$Notebook;") (List.mem_of_getElem? (i := 7) (by decide +kernel))) (fun _ h9 => h9) rfl dX10_image_32 ?_
  have hPc := hP.sub (ws' := [(xa62, .inr (3, [.ref xa3, .ref xa45, .ref xa63, .ref xa64, .ref xa65, .ref xa66, .int 0, .int (-1), .int 0])), (xa63, .inl (kI, 8, .inl (fun _ => 0))), (xa64, .inl (kI, 8, .inl (fun _ => 0))), (xa65, .inl (kI, 8, .inl (fun _ => 0))), (xa66, .inl (kI, 8, .inl (fun _ => 0))), (xa47, .inr (3, [.ref xa3, .ref xa45, .ref xa48, .ref xa49, .ref xa50, .ref xa51, .int 0, .int (-1), .int 0])), (xa48, .inl (kI, 8, .inl (fun _ => 0))), (xa49, .inl (kI, 8, .inl (fun _ => 0))), (xa50, .inl (kI, 8, .inl (fun _ => 0))), (xa51, .inl (kI, 8, .inl (fun _ => 0)))]) [6, 7, 8, 9, 10, 1, 2, 3, 4, 5] rfl
  have hDc := hD.sub (ws' := [(xa62, .inr (3, [.ref xa3, .ref xa45, .ref xa63, .ref xa64, .ref xa65, .ref xa66, .int 0, .int (-1), .int 0])), (xa63, .inl (kI, 8, .inl (fun _ => 0))), (xa64, .inl (kI, 8, .inl (fun _ => 0))), (xa65, .inl (kI, 8, .inl (fun _ => 0))), (xa66, .inl (kI, 8, .inl (fun _ => 0))), (xa47, .inr (3, [.ref xa3, .ref xa45, .ref xa48, .ref xa49, .ref xa50, .ref xa51, .int 0, .int (-1), .int 0])), (xa48, .inl (kI, 8, .inl (fun _ => 0))), (xa49, .inl (kI, 8, .inl (fun _ => 0))), (xa50, .inl (kI, 8, .inl (fun _ => 0))), (xa51, .inl (kI, 8, .inl (fun _ => 0)))]) [6, 7, 8, 9, 10, 1, 2, 3, 4, 5] (by decide) rfl
  have hFc := va_free (wc := [(xa62, .inr (3, [.ref xa3, .ref xa45, .ref xa63, .ref xa64, .ref xa65, .ref xa66, .int 0, .int (-1), .int 0])), (xa63, .inl (kI, 8, .inl (fun _ => 0))), (xa64, .inl (kI, 8, .inl (fun _ => 0))), (xa65, .inl (kI, 8, .inl (fun _ => 0))), (xa66, .inl (kI, 8, .inl (fun _ => 0))), (xa47, .inr (3, [.ref xa3, .ref xa45, .ref xa48, .ref xa49, .ref xa50, .ref xa51, .int 0, .int (-1), .int 0])), (xa48, .inl (kI, 8, .inl (fun _ => 0))), (xa49, .inl (kI, 8, .inl (fun _ => 0))), (xa50, .inl (kI, 8, .inl (fun _ => 0))), (xa51, .inl (kI, 8, .inl (fun _ => 0)))]) hD hS hA [6, 7, 8, 9, 10, 1, 2, 3, 4, 5] rfl
  refine va_callv (va_runV (As := [.ref xa47]) (rest := []) ⟨hx, hb, hml, hown, hts⟩ (k3_copyFrom l dC dI kB kI kJ kZ kC kS H.size xa62 xa3 xa45 xa63 xa64 xa65 xa66 xa47 xa48 xa49 xa50 xa51) (cwV 1 hts gX10_image_X3_copyFrom rfl rfl rfl (by decide +kernel) ⟨Nat.le_of_ble_eq_true rfl, Nat.le_of_ble_eq_true rfl⟩) ⟨fun a U g mk q => by obtain ⟨q0, q1, qP, qE, qD⟩ := q; exact ⟨q0, q1, qP, kE_call qE, qD⟩, va_recv hK hP (ci := 3) (q0 := 6) rfl rfl, fun U hU hW => ⟨rfl, by rw [hU], by rw [hU]; exact hPc, kE_warm hW hE, hDc.weaken (fun _ _ _ _ => trivial)⟩⟩ rfl rfl hl.1 rfl (lv_room (Nat.le_of_ble_eq_true rfl)) dX10_image_35 ⟨Nat.le_of_ble_eq_true rfl, Nat.le_of_ble_eq_true rfl⟩) hS (fun q _ h => hFc q h) hFc (fun u t H1 locs ht hvm w10 hB hz1 hk1 hS => ?_)
  obtain ⟨g_11, g_12, g_13, g_14, hP1, hD1⟩ := hB
  rw [ht] at hP1
  try dsimp only at w10
  obtain ⟨hP, hD⟩ := va_join (wr := [(h0, .inr (10, [.ref xa1, .ref xa3, .ref xa15, .ref xa27, .ref xa28, .ref xa33, .ref xa38, .ref xa41, .ref xa45, .ref xa46, .ref xa47, .ref xa52, .ref xa54, .int 1, .ref xa55, .ref xa60, .ref xa62, .ref xa67, .int (-1)])), (xa54, .inl (kI, 3, .inl (fun _ => 0))), (xa67, .inl (kI, 3, .inl (fun _ => 0))), (xa55, .inr (0, [.ref xa56, .ref xa57, .ref xa58, .ref xa59, .int 5, .int 0, .int 0, .int 0, .int 0, .int 0])), (xa56, .inl (kJ, 96, .inr (.inl g_3))), (xa57, .inl (kI, 30, .inl g_4)), (xa58, .inl (kI, 12, .inl g_5)), (xa59, .inl (kI, 12, .inl g_6)), (xa28, .inr (0, [.ref xa29, .ref xa30, .ref xa31, .ref xa32, .int 5, .int 0, .int 0, .int 0, .int 0, .int 0])), (xa29, .inl (kJ, 96, .inr (.inl (fun _ => 0)))), (xa30, .inl (kI, 30, .inl (fun _ => 0))), (xa31, .inl (kI, 12, .inl (fun _ => 0))), (xa32, .inl (kI, 12, .inl (fun _ => 0))), (xa60, .inr (1, [.ref xa61, .int 0, .int 0])), (xa52, .inr (1, [.ref xa53, .int 0, .int 0]))]) (w1 := [(xa62, .inr (3, [.ref xa3, .ref xa45, .ref xa63, .ref xa64, .ref xa65, .ref xa66, .int 0, .int (-1), .int 0])), (xa63, .inl (kI, 8, .inl g_11)), (xa64, .inl (kI, 8, .inl g_12)), (xa65, .inl (kI, 8, .inl g_13)), (xa66, .inl (kI, 8, .inl g_14)), (xa47, .inr (3, [.ref xa3, .ref xa45, .ref xa48, .ref xa49, .ref xa50, .ref xa51, .int 0, .int (-1), .int 0])), (xa48, .inl (kI, 8, .inl (fun _ => 0))), (xa49, .inl (kI, 8, .inl (fun _ => 0))), (xa50, .inl (kI, 8, .inl (fun _ => 0))), (xa51, .inl (kI, 8, .inl (fun _ => 0)))]) hP hD [6, 7, 8, 9, 10, 1, 2, 3, 4, 5] [0, 11, 12, 13, 14, 15, 16, 17, 18, 19, 20, 21, 22, 23, 24] rfl rfl (by decide) (by decide) hk1 hFc hP1 hD1
  generalize H1 = H at hP hS ⊢
  have hP : va_P (dC, dI) vwCl [(h0, .inr (10, [.ref xa1, .ref xa3, .ref xa15, .ref xa27, .ref xa28, .ref xa33, .ref xa38, .ref xa41, .ref xa45, .ref xa46, .ref xa47, .ref xa52, .ref xa54, .int 1, .ref xa55, .ref xa60, .ref xa62, .ref xa67, .int (-1)])), (xa54, .inl (kI, 3, .inl (fun _ => 0))), (xa67, .inl (kI, 3, .inl (fun _ => 0))), (xa55, .inr (0, [.ref xa56, .ref xa57, .ref xa58, .ref xa59, .int 5, .int 0, .int 0, .int 0, .int 0, .int 0])), (xa56, .inl (kJ, 96, .inr (.inl g_3))), (xa57, .inl (kI, 30, .inl g_4)), (xa58, .inl (kI, 12, .inl g_5)), (xa59, .inl (kI, 12, .inl g_6)), (xa28, .inr (0, [.ref xa29, .ref xa30, .ref xa31, .ref xa32, .int 5, .int 0, .int 0, .int 0, .int 0, .int 0])), (xa29, .inl (kJ, 96, .inr (.inl (fun _ => 0)))), (xa30, .inl (kI, 30, .inl (fun _ => 0))), (xa31, .inl (kI, 12, .inl (fun _ => 0))), (xa32, .inl (kI, 12, .inl (fun _ => 0))), (xa60, .inr (1, [.ref xa61, .int 0, .int 0])), (xa52, .inr (1, [.ref xa53, .int 0, .int 0])), (xa62, .inr (3, [.ref xa3, .ref xa45, .ref xa63, .ref xa64, .ref xa65, .ref xa66, .int 0, .int (-1), .int 0])), (xa63, .inl (kI, 8, .inl g_11)), (xa64, .inl (kI, 8, .inl g_12)), (xa65, .inl (kI, 8, .inl g_13)), (xa66, .inl (kI, 8, .inl g_14)), (xa47, .inr (3, [.ref xa3, .ref xa45, .ref xa48, .ref xa49, .ref xa50, .ref xa51, .int 0, .int (-1), .int 0])), (xa48, .inl (kI, 8, .inl (fun _ => 0))), (xa49, .inl (kI, 8, .inl (fun _ => 0))), (xa50, .inl (kI, 8, .inl (fun _ => 0))), (xa51, .inl (kI, 8, .inl (fun _ => 0)))] H := hP
  have hD : va_D A [(h0, .inr (10, [.ref xa1, .ref xa3, .ref xa15, .ref xa27, .ref xa28, .ref xa33, .ref xa38, .ref xa41, .ref xa45, .ref xa46, .ref xa47, .ref xa52, .ref xa54, .int 1, .ref xa55, .ref xa60, .ref xa62, .ref xa67, .int (-1)])), (xa54, .inl (kI, 3, .inl (fun _ => 0))), (xa67, .inl (kI, 3, .inl (fun _ => 0))), (xa55, .inr (0, [.ref xa56, .ref xa57, .ref xa58, .ref xa59, .int 5, .int 0, .int 0, .int 0, .int 0, .int 0])), (xa56, .inl (kJ, 96, .inr (.inl g_3))), (xa57, .inl (kI, 30, .inl g_4)), (xa58, .inl (kI, 12, .inl g_5)), (xa59, .inl (kI, 12, .inl g_6)), (xa28, .inr (0, [.ref xa29, .ref xa30, .ref xa31, .ref xa32, .int 5, .int 0, .int 0, .int 0, .int 0, .int 0])), (xa29, .inl (kJ, 96, .inr (.inl (fun _ => 0)))), (xa30, .inl (kI, 30, .inl (fun _ => 0))), (xa31, .inl (kI, 12, .inl (fun _ => 0))), (xa32, .inl (kI, 12, .inl (fun _ => 0))), (xa60, .inr (1, [.ref xa61, .int 0, .int 0])), (xa52, .inr (1, [.ref xa53, .int 0, .int 0])), (xa62, .inr (3, [.ref xa3, .ref xa45, .ref xa63, .ref xa64, .ref xa65, .ref xa66, .int 0, .int (-1), .int 0])), (xa63, .inl (kI, 8, .inl g_11)), (xa64, .inl (kI, 8, .inl g_12)), (xa65, .inl (kI, 8, .inl g_13)), (xa66, .inl (kI, 8, .inl g_14)), (xa47, .inr (3, [.ref xa3, .ref xa45, .ref xa48, .ref xa49, .ref xa50, .ref xa51, .int 0, .int (-1), .int 0])), (xa48, .inl (kI, 8, .inl (fun _ => 0))), (xa49, .inl (kI, 8, .inl (fun _ => 0))), (xa50, .inl (kI, 8, .inl (fun _ => 0))), (xa51, .inl (kI, 8, .inl (fun _ => 0)))] := hD
  refine W.widen (k := 0) (n := 0) (Nat.le_of_ble_eq_true rfl) (Nat.le_of_ble_eq_true rfl) ?_
  refine lv_aload_n hx hb dX10_image_38 rfl (lv_at hl 0 rfl) ?_
  refine va_get (D := (dC, dI)) (ci := 10) (v := .ref xa54) (C := RX10) (T := TX10) (N := 19) hx hb hts hin10 hown hK hP 0 rfl rfl 12 (by decide) (hts (.fieldLink RX10 93 "PathProber" "status" "[I") (List.mem_of_getElem? (i := 8) (by decide +kernel))) (fun _ h9 => h9) rfl dX10_image_39 ?_
  refine lv_iconst (v := 0) hx hb dX10_image_42 (by decide) ?_
  refine lv_aload_n hx hb dX10_image_43 rfl (lv_at hl 0 rfl) ?_
  refine va_get (D := (dC, dI)) (ci := 10) (v := .ref xa67) (C := RX10) (T := TX10) (N := 19) hx hb hts hin10 hown hK hP 0 rfl rfl 17 (by decide) (hts (.fieldLink RX10 110 "PathProber" "imageStatus" "[I") (List.mem_of_getElem? (i := 9) (by decide +kernel))) (fun _ h9 => h9) rfl dX10_image_44 ?_
  refine lv_iconst (v := 0) hx hb dX10_image_47 (by decide) ?_
  refine lv_iconst (v := 3) hx hb dX10_image_48 (by decide) ?_
  refine va_copyi hx hb (by rw [hml]; exact hl.1.symm) hown (hts (.methodLink RX10 438 arraycopyName) (List.mem_of_getElem? (i := 10) (by decide +kernel))) (hts (.native arraycopyName) (List.mem_of_getElem? (i := 11) (by decide +kernel))) (hts (.static arraycopyName) (List.mem_of_getElem? (i := 12) (by decide +kernel))) (hts (.initialized "java/lang/System") (List.mem_of_getElem? (i := 13) (by decide +kernel))) hK hP hD hS 1 2 1 1 rfl rfl rfl rfl rfl (by decide) (by decide) (by decide) (by decide) (by decide) (fun _ _ => rfl) (Nat.le_of_ble_eq_true rfl) (Nat.le_of_ble_eq_true rfl) dX10_image_49 (fun H locs hP hD hS => ?_)
  have hP : va_P (dC, dI) vwCl [(h0, .inr (10, [.ref xa1, .ref xa3, .ref xa15, .ref xa27, .ref xa28, .ref xa33, .ref xa38, .ref xa41, .ref xa45, .ref xa46, .ref xa47, .ref xa52, .ref xa54, .int 1, .ref xa55, .ref xa60, .ref xa62, .ref xa67, .int (-1)])), (xa54, .inl (kI, 3, .inl (fun _ => 0))), (xa67, .inl (kI, 3, .inl (va_cpy (fun _ => 0) (fun _ => 0) 0 0 3))), (xa55, .inr (0, [.ref xa56, .ref xa57, .ref xa58, .ref xa59, .int 5, .int 0, .int 0, .int 0, .int 0, .int 0])), (xa56, .inl (kJ, 96, .inr (.inl g_3))), (xa57, .inl (kI, 30, .inl g_4)), (xa58, .inl (kI, 12, .inl g_5)), (xa59, .inl (kI, 12, .inl g_6)), (xa28, .inr (0, [.ref xa29, .ref xa30, .ref xa31, .ref xa32, .int 5, .int 0, .int 0, .int 0, .int 0, .int 0])), (xa29, .inl (kJ, 96, .inr (.inl (fun _ => 0)))), (xa30, .inl (kI, 30, .inl (fun _ => 0))), (xa31, .inl (kI, 12, .inl (fun _ => 0))), (xa32, .inl (kI, 12, .inl (fun _ => 0))), (xa60, .inr (1, [.ref xa61, .int 0, .int 0])), (xa52, .inr (1, [.ref xa53, .int 0, .int 0])), (xa62, .inr (3, [.ref xa3, .ref xa45, .ref xa63, .ref xa64, .ref xa65, .ref xa66, .int 0, .int (-1), .int 0])), (xa63, .inl (kI, 8, .inl g_11)), (xa64, .inl (kI, 8, .inl g_12)), (xa65, .inl (kI, 8, .inl g_13)), (xa66, .inl (kI, 8, .inl g_14)), (xa47, .inr (3, [.ref xa3, .ref xa45, .ref xa48, .ref xa49, .ref xa50, .ref xa51, .int 0, .int (-1), .int 0])), (xa48, .inl (kI, 8, .inl (fun _ => 0))), (xa49, .inl (kI, 8, .inl (fun _ => 0))), (xa50, .inl (kI, 8, .inl (fun _ => 0))), (xa51, .inl (kI, 8, .inl (fun _ => 0)))] H := hP
  have hD : va_D A [(h0, .inr (10, [.ref xa1, .ref xa3, .ref xa15, .ref xa27, .ref xa28, .ref xa33, .ref xa38, .ref xa41, .ref xa45, .ref xa46, .ref xa47, .ref xa52, .ref xa54, .int 1, .ref xa55, .ref xa60, .ref xa62, .ref xa67, .int (-1)])), (xa54, .inl (kI, 3, .inl (fun _ => 0))), (xa67, .inl (kI, 3, .inl (va_cpy (fun _ => 0) (fun _ => 0) 0 0 3))), (xa55, .inr (0, [.ref xa56, .ref xa57, .ref xa58, .ref xa59, .int 5, .int 0, .int 0, .int 0, .int 0, .int 0])), (xa56, .inl (kJ, 96, .inr (.inl g_3))), (xa57, .inl (kI, 30, .inl g_4)), (xa58, .inl (kI, 12, .inl g_5)), (xa59, .inl (kI, 12, .inl g_6)), (xa28, .inr (0, [.ref xa29, .ref xa30, .ref xa31, .ref xa32, .int 5, .int 0, .int 0, .int 0, .int 0, .int 0])), (xa29, .inl (kJ, 96, .inr (.inl (fun _ => 0)))), (xa30, .inl (kI, 30, .inl (fun _ => 0))), (xa31, .inl (kI, 12, .inl (fun _ => 0))), (xa32, .inl (kI, 12, .inl (fun _ => 0))), (xa60, .inr (1, [.ref xa61, .int 0, .int 0])), (xa52, .inr (1, [.ref xa53, .int 0, .int 0])), (xa62, .inr (3, [.ref xa3, .ref xa45, .ref xa63, .ref xa64, .ref xa65, .ref xa66, .int 0, .int (-1), .int 0])), (xa63, .inl (kI, 8, .inl g_11)), (xa64, .inl (kI, 8, .inl g_12)), (xa65, .inl (kI, 8, .inl g_13)), (xa66, .inl (kI, 8, .inl g_14)), (xa47, .inr (3, [.ref xa3, .ref xa45, .ref xa48, .ref xa49, .ref xa50, .ref xa51, .int 0, .int (-1), .int 0])), (xa48, .inl (kI, 8, .inl (fun _ => 0))), (xa49, .inl (kI, 8, .inl (fun _ => 0))), (xa50, .inl (kI, 8, .inl (fun _ => 0))), (xa51, .inl (kI, 8, .inl (fun _ => 0)))] := hD
  have hP9 := hP.sub (ws' := []) [] rfl
  have hD9 := hD.sub (ws' := []) [] (by decide) rfl
  exact W.vret hx hb hr (fun t ht hW => ⟨⟨(), rfl, trivial, by rw [ht]; exact hP9, hD9⟩, hS.F ht⟩) hS.2.2 dX10_image_52
def rm_k11_keep : Room := { frames := 0, cells := 0, slots := 0, locals := 0 }
set_option maxHeartbeats 4000000 in
set_option maxRecDepth 100000 in
theorem k11_keep (l : Launch) (dC : Nat → ClassId) (dI : Nat → Nat → Nat) (kB kI kJ kZ kC kS : ClassId) (sz : Nat) (m0 : Nat) (ywords : Nat) (ykinds : Nat) (ytold : Nat) (ykind : Nat) (ysalt : Nat) (ypace : Nat) (ymute : Nat) (ylate : Nat) (yfrom : Nat) (yto : Nat) (ygoal : Nat) (ynow : Nat) (ystatus : Nat) (ytape : Nat) (yreach : Nat) (ymet : Nat) (ypast : Nat) (yisAt : Nat) (ywaysTo : Nat) (ywide : Nat) (ydiamondFrom : Nat) (ydiamondTo : Nat) (ynotedPort : Nat) (ynotedGoal : Nat) (ynotedHop : Nat) (ynotedAddress : Nat) (yfitting : Nat) (yrowThen : Nat) (yimageRow : Nat) (ypastThen : Nat) (ynotedPortThen : Nat) (ynotedGoalThen : Nat) (ynotedHopThen : Nat) (ynotedAddressThen : Nat) (ystatusThen : Nat) : Met l yX11_keep wsX11_keep rm_k11_keep (va_Pc [.ref m0] (fun U => U.heap.size = sz ∧ va_P (dC, dI) vwCl [(m0, .inr (11, [.ref ywords, .ref ykinds, .int 0, .ref ytold, .ref ykind, .ref ysalt, .ref ypace, .ref ymute, .ref ylate, .ref yfrom, .ref yto, .ref ygoal, .ref ynow, .ref ystatus, .ref ytape, .int 0, .int 0, .int 0, .int 0, .int 0, .int 0, .int 0, .int 0, .int 0, .int (-1), .ref yreach, .int (-1), .int 0, .int 0, .int 0, .int 0, .int 0, .ref ymet, .int 0, .ref ypast, .ref yisAt, .ref ywaysTo, .ref ywide, .ref ydiamondFrom, .ref ydiamondTo, .int 0, .int 0, .int 0, .int 0, .ref ynotedPort, .ref ynotedGoal, .ref ynotedHop, .ref ynotedAddress, .ref yfitting, .int 0, .ref yrowThen, .int 0, .int 0, .int 0, .ref yimageRow, .ref ypastThen, .ref ynotedPortThen, .ref ynotedGoalThen, .ref ynotedHopThen, .ref ynotedAddressThen, .ref ystatusThen])), (ypast, .inl (kI, 40760, .inl (fun _ => 0))), (ynow, .inl (kI, 1019, .inl (upd (fun _ => 0) 54 5)))] U.heap ∧ kE dC dI kB kI kJ kZ kC kS U ∧ va_D (fun _ => True) [(m0, .inr (11, [.ref ywords, .ref ykinds, .int 0, .ref ytold, .ref ykind, .ref ysalt, .ref ypace, .ref ymute, .ref ylate, .ref yfrom, .ref yto, .ref ygoal, .ref ynow, .ref ystatus, .ref ytape, .int 0, .int 0, .int 0, .int 0, .int 0, .int 0, .int 0, .int 0, .int 0, .int (-1), .ref yreach, .int (-1), .int 0, .int 0, .int 0, .int 0, .int 0, .ref ymet, .int 0, .ref ypast, .ref yisAt, .ref ywaysTo, .ref ywide, .ref ydiamondFrom, .ref ydiamondTo, .int 0, .int 0, .int 0, .int 0, .ref ynotedPort, .ref ynotedGoal, .ref ynotedHop, .ref ynotedAddress, .ref yfitting, .int 0, .ref yrowThen, .int 0, .int 0, .int 0, .ref yimageRow, .ref ypastThen, .ref ynotedPortThen, .ref ynotedGoalThen, .ref ynotedHopThen, .ref ynotedAddressThen, .ref ystatusThen])), (ypast, .inl (kI, 40760, .inl (fun _ => 0))), (ynow, .inl (kI, 1019, .inl (upd (fun _ => 0) 54 5)))])) (va_Qv (fun (_ : Unit) => True) (fun _ t => va_P (dC, dI) vwCl [(m0, .inr (11, [.ref ywords, .ref ykinds, .int 0, .ref ytold, .ref ykind, .ref ysalt, .ref ypace, .ref ymute, .ref ylate, .ref yfrom, .ref yto, .ref ygoal, .ref ynow, .ref ystatus, .ref ytape, .int 0, .int 0, .int 0, .int 0, .int 0, .int 0, .int 0, .int 0, .int 0, .int (-1), .ref yreach, .int (-1), .int 0, .int 0, .int 0, .int 0, .int 0, .ref ymet, .int 1, .ref ypast, .ref yisAt, .ref ywaysTo, .ref ywide, .ref ydiamondFrom, .ref ydiamondTo, .int 0, .int 0, .int 0, .int 0, .ref ynotedPort, .ref ynotedGoal, .ref ynotedHop, .ref ynotedAddress, .ref yfitting, .int 0, .ref yrowThen, .int 0, .int 0, .int 0, .ref yimageRow, .ref ypastThen, .ref ynotedPortThen, .ref ynotedGoalThen, .ref ynotedHopThen, .ref ynotedAddressThen, .ref ystatusThen])), (ynow, .inl (kI, 1019, .inl (upd (fun _ => 0) 54 5)))] t.heap ∧ va_D (va_A [(m0, .inr (11, [.ref ywords, .ref ykinds, .int 0, .ref ytold, .ref ykind, .ref ysalt, .ref ypace, .ref ymute, .ref ylate, .ref yfrom, .ref yto, .ref ygoal, .ref ynow, .ref ystatus, .ref ytape, .int 0, .int 0, .int 0, .int 0, .int 0, .int 0, .int 0, .int 0, .int 0, .int (-1), .ref yreach, .int (-1), .int 0, .int 0, .int 0, .int 0, .int 0, .ref ymet, .int 0, .ref ypast, .ref yisAt, .ref ywaysTo, .ref ywide, .ref ydiamondFrom, .ref ydiamondTo, .int 0, .int 0, .int 0, .int 0, .ref ynotedPort, .ref ynotedGoal, .ref ynotedHop, .ref ynotedAddress, .ref yfitting, .int 0, .ref yrowThen, .int 0, .int 0, .int 0, .ref yimageRow, .ref ypastThen, .ref ynotedPortThen, .ref ynotedGoalThen, .ref ynotedHopThen, .ref ynotedAddressThen, .ref ystatusThen])), (ypast, .inl (kI, 40760, .inl (fun _ => 0))), (ynow, .inl (kI, 1019, .inl (upd (fun _ => 0) 54 5)))] sz) [(m0, .inr (11, [.ref ywords, .ref ykinds, .int 0, .ref ytold, .ref ykind, .ref ysalt, .ref ypace, .ref ymute, .ref ylate, .ref yfrom, .ref yto, .ref ygoal, .ref ynow, .ref ystatus, .ref ytape, .int 0, .int 0, .int 0, .int 0, .int 0, .int 0, .int 0, .int 0, .int 0, .int (-1), .ref yreach, .int (-1), .int 0, .int 0, .int 0, .int 0, .int 0, .ref ymet, .int 1, .ref ypast, .ref yisAt, .ref ywaysTo, .ref ywide, .ref ydiamondFrom, .ref ydiamondTo, .int 0, .int 0, .int 0, .int 0, .ref ynotedPort, .ref ynotedGoal, .ref ynotedHop, .ref ynotedAddress, .ref yfitting, .int 0, .ref yrowThen, .int 0, .int 0, .int 0, .ref yimageRow, .ref ypastThen, .ref ynotedPortThen, .ref ynotedGoalThen, .ref ynotedHopThen, .ref ynotedAddressThen, .ref ystatusThen])), (ynow, .inl (kI, 1019, .inl (upd (fun _ => 0) 54 5)))]) (va_A [(m0, .inr (11, [.ref ywords, .ref ykinds, .int 0, .ref ytold, .ref ykind, .ref ysalt, .ref ypace, .ref ymute, .ref ylate, .ref yfrom, .ref yto, .ref ygoal, .ref ynow, .ref ystatus, .ref ytape, .int 0, .int 0, .int 0, .int 0, .int 0, .int 0, .int 0, .int 0, .int 0, .int (-1), .ref yreach, .int (-1), .int 0, .int 0, .int 0, .int 0, .int 0, .ref ymet, .int 0, .ref ypast, .ref yisAt, .ref ywaysTo, .ref ywide, .ref ydiamondFrom, .ref ydiamondTo, .int 0, .int 0, .int 0, .int 0, .ref ynotedPort, .ref ynotedGoal, .ref ynotedHop, .ref ynotedAddress, .ref yfitting, .int 0, .ref yrowThen, .int 0, .int 0, .int 0, .ref yimageRow, .ref ypastThen, .ref ynotedPortThen, .ref ynotedGoalThen, .ref ynotedHopThen, .ref ynotedAddressThen, .ref ystatusThen])), (ypast, .inl (kI, 40760, .inl (fun _ => 0))), (ynow, .inl (kI, 1019, .inl (upd (fun _ => 0) 54 5)))] sz)) 0 0 (va_A [(m0, .inr (11, [.ref ywords, .ref ykinds, .int 0, .ref ytold, .ref ykind, .ref ysalt, .ref ypace, .ref ymute, .ref ylate, .ref yfrom, .ref yto, .ref ygoal, .ref ynow, .ref ystatus, .ref ytape, .int 0, .int 0, .int 0, .int 0, .int 0, .int 0, .int 0, .int 0, .int 0, .int (-1), .ref yreach, .int (-1), .int 0, .int 0, .int 0, .int 0, .int 0, .ref ymet, .int 0, .ref ypast, .ref yisAt, .ref ywaysTo, .ref ywide, .ref ydiamondFrom, .ref ydiamondTo, .int 0, .int 0, .int 0, .int 0, .ref ynotedPort, .ref ynotedGoal, .ref ynotedHop, .ref ynotedAddress, .ref yfitting, .int 0, .ref yrowThen, .int 0, .int 0, .int 0, .ref yimageRow, .ref ypastThen, .ref ynotedPortThen, .ref ynotedGoalThen, .ref ynotedHopThen, .ref ynotedAddressThen, .ref ystatusThen])), (ypast, .inl (kI, 40760, .inl (fun _ => 0))), (ynow, .inl (kI, 1019, .inl (upd (fun _ => 0) 54 5)))] sz) := by
  refine Met.ofW (cc := cX11_keep) (maxL := 2) (ret := none) (by decide) rfl ?_
  intro p e s m args0 below meth c s₁ B hml hv
  obtain ⟨hargs, hsz, hP, hE, hD0⟩ := hv
  have hx := B.exec
  have hb := B.bytes
  have hr := B.returns
  have hts := atoms_spec (ws := wsX11_keep) B.pre
  have hown : s.vm.findClass RX11 = some m.cls := findClass_of_methodNamed B.named
  have hlocks := B.notSynchronized
  have hK := hE.1
  have hin11 : ∀ w ∈ wsX110, w ∈ wsX11_keep := fun _ h9 => List.mem_cons_of_mem _ (List.mem_append_right _ h9)
  subst hsz
  have hD := hD0.self (sz := s.heap.size)
  generalize hAe : va_A [(m0, .inr (11, [.ref ywords, .ref ykinds, .int 0, .ref ytold, .ref ykind, .ref ysalt, .ref ypace, .ref ymute, .ref ylate, .ref yfrom, .ref yto, .ref ygoal, .ref ynow, .ref ystatus, .ref ytape, .int 0, .int 0, .int 0, .int 0, .int 0, .int 0, .int 0, .int 0, .int 0, .int (-1), .ref yreach, .int (-1), .int 0, .int 0, .int 0, .int 0, .int 0, .ref ymet, .int 0, .ref ypast, .ref yisAt, .ref ywaysTo, .ref ywide, .ref ydiamondFrom, .ref ydiamondTo, .int 0, .int 0, .int 0, .int 0, .ref ynotedPort, .ref ynotedGoal, .ref ynotedHop, .ref ynotedAddress, .ref yfitting, .int 0, .ref yrowThen, .int 0, .int 0, .int 0, .ref yimageRow, .ref ypastThen, .ref ynotedPortThen, .ref ynotedGoalThen, .ref ynotedHopThen, .ref ynotedAddressThen, .ref ystatusThen])), (ypast, .inl (kI, 40760, .inl (fun _ => 0))), (ynow, .inl (kI, 1019, .inl (upd (fun _ => 0) 54 5)))] s.heap.size = A at hD ⊢
  have hA : ∀ q : Nat, s.heap.size ≤ q → A q := fun q h => by rw [← hAe]; exact Or.inr h
  have hS : va_S A s.heap s.heap [] := va_S.rf
  have hP : va_P (dC, dI) vwCl [(m0, .inr (11, [.ref ywords, .ref ykinds, .int 0, .ref ytold, .ref ykind, .ref ysalt, .ref ypace, .ref ymute, .ref ylate, .ref yfrom, .ref yto, .ref ygoal, .ref ynow, .ref ystatus, .ref ytape, .int 0, .int 0, .int 0, .int 0, .int 0, .int 0, .int 0, .int 0, .int 0, .int (-1), .ref yreach, .int (-1), .int 0, .int 0, .int 0, .int 0, .int 0, .ref ymet, .int 0, .ref ypast, .ref yisAt, .ref ywaysTo, .ref ywide, .ref ydiamondFrom, .ref ydiamondTo, .int 0, .int 0, .int 0, .int 0, .ref ynotedPort, .ref ynotedGoal, .ref ynotedHop, .ref ynotedAddress, .ref yfitting, .int 0, .ref yrowThen, .int 0, .int 0, .int 0, .ref yimageRow, .ref ypastThen, .ref ynotedPortThen, .ref ynotedGoalThen, .ref ynotedHopThen, .ref ynotedAddressThen, .ref ystatusThen])), (ypast, .inl (kI, 40760, .inl (fun _ => 0))), (ynow, .inl (kI, 1019, .inl (upd (fun _ => 0) 54 5)))] s.heap := hP
  have hl := lv_entry ([.ref m0]) (n := 2) (Nat.le_of_ble_eq_true rfl)
  have hla : entryFrame m args0 2 = entryFrame m ([.ref m0] : List Value).toArray 2 := by rw [hargs]
  rw [hla, lg_entry_eq]
  generalize (lg_sl ([.ref m0]) ++ List.replicate (2 - (lg_sl ([.ref m0])).length) Slot.unset).toArray = ls at hl ⊢
  have hl : lv_has ls 2 [(0, .ref m0)] := hl
  refine lv_aload_n hx hb dX11_keep_0 rfl (lv_at hl 0 rfl) ?_
  refine va_get (D := (dC, dI)) (ci := 11) (v := .int 0) (C := RX11) (T := TX11) (N := 61) hx hb hts hin11 hown hK hP 0 rfl rfl 33 (by decide) (hts (.fieldLink RX11 250 "PathProberModel" "acts" "I") (List.mem_of_getElem? (i := 1) (by decide +kernel))) (fun _ h9 => h9) rfl dX11_keep_1 ?_
  refine lv_bipush (v := 40) hx hb dX11_keep_4 (by decide) ?_
  refine lv_icmp_ne (tgt := 54) hx hb dX11_keep_6 (by decide) (fun _ => ?_) (fun c9 => absurd c9 (by decide))
  refine lv_iconst (v := 0) hx hb dX11_keep_54 (by decide) ?_
  refine lv_istore_n (lv' := [(1, .int 0), (0, .ref m0)]) hx hb dX11_keep_55 rfl hl (by decide) rfl (fun ls hl => ?_)
  have hloop56 : ∀ (n : Nat) (i : Nat) (a1f : Nat → Int32) (H : Heap) (locs : List Loc) (ls : Array Slot), i + n = 1019 → va_P (dC, dI) vwCl [(m0, .inr (11, [.ref ywords, .ref ykinds, .int 0, .ref ytold, .ref ykind, .ref ysalt, .ref ypace, .ref ymute, .ref ylate, .ref yfrom, .ref yto, .ref ygoal, .ref ynow, .ref ystatus, .ref ytape, .int 0, .int 0, .int 0, .int 0, .int 0, .int 0, .int 0, .int 0, .int 0, .int (-1), .ref yreach, .int (-1), .int 0, .int 0, .int 0, .int 0, .int 0, .ref ymet, .int 0, .ref ypast, .ref yisAt, .ref ywaysTo, .ref ywide, .ref ydiamondFrom, .ref ydiamondTo, .int 0, .int 0, .int 0, .int 0, .ref ynotedPort, .ref ynotedGoal, .ref ynotedHop, .ref ynotedAddress, .ref yfitting, .int 0, .ref yrowThen, .int 0, .int 0, .int 0, .ref yimageRow, .ref ypastThen, .ref ynotedPortThen, .ref ynotedGoalThen, .ref ynotedHopThen, .ref ynotedAddressThen, .ref ystatusThen])), (ypast, .inl (kI, 40760, .inl a1f)), (ynow, .inl (kI, 1019, .inl (upd (fun _ => 0) 54 5)))] H → va_D A [(m0, .inr (11, [.ref ywords, .ref ykinds, .int 0, .ref ytold, .ref ykind, .ref ysalt, .ref ypace, .ref ymute, .ref ylate, .ref yfrom, .ref yto, .ref ygoal, .ref ynow, .ref ystatus, .ref ytape, .int 0, .int 0, .int 0, .int 0, .int 0, .int 0, .int 0, .int 0, .int 0, .int (-1), .ref yreach, .int (-1), .int 0, .int 0, .int 0, .int 0, .int 0, .ref ymet, .int 0, .ref ypast, .ref yisAt, .ref ywaysTo, .ref ywide, .ref ydiamondFrom, .ref ydiamondTo, .int 0, .int 0, .int 0, .int 0, .ref ynotedPort, .ref ynotedGoal, .ref ynotedHop, .ref ynotedAddress, .ref yfitting, .int 0, .ref yrowThen, .int 0, .int 0, .int 0, .ref yimageRow, .ref ypastThen, .ref ynotedPortThen, .ref ynotedGoalThen, .ref ynotedHopThen, .ref ynotedAddressThen, .ref ystatusThen])), (ypast, .inl (kI, 40760, .inl a1f)), (ynow, .inl (kI, 1019, .inl (upd (fun _ => 0) 54 5)))] → va_S A s.heap H locs → lv_has ls 2 [(1, .int (nI i)), (0, .ref m0)] → W p l e (headSpec wsX11_keep rm_k11_keep).room s m args0 below meth c H locs 0 0 (MQ below (va_Qv (fun (_ : Unit) => True) (fun _ t => va_P (dC, dI) vwCl [(m0, .inr (11, [.ref ywords, .ref ykinds, .int 0, .ref ytold, .ref ykind, .ref ysalt, .ref ypace, .ref ymute, .ref ylate, .ref yfrom, .ref yto, .ref ygoal, .ref ynow, .ref ystatus, .ref ytape, .int 0, .int 0, .int 0, .int 0, .int 0, .int 0, .int 0, .int 0, .int 0, .int (-1), .ref yreach, .int (-1), .int 0, .int 0, .int 0, .int 0, .int 0, .ref ymet, .int 1, .ref ypast, .ref yisAt, .ref ywaysTo, .ref ywide, .ref ydiamondFrom, .ref ydiamondTo, .int 0, .int 0, .int 0, .int 0, .ref ynotedPort, .ref ynotedGoal, .ref ynotedHop, .ref ynotedAddress, .ref yfitting, .int 0, .ref yrowThen, .int 0, .int 0, .int 0, .ref yimageRow, .ref ypastThen, .ref ynotedPortThen, .ref ynotedGoalThen, .ref ynotedHopThen, .ref ynotedAddressThen, .ref ystatusThen])), (ynow, .inl (kI, 1019, .inl (upd (fun _ => 0) 54 5)))] t.heap ∧ va_D A [(m0, .inr (11, [.ref ywords, .ref ykinds, .int 0, .ref ytold, .ref ykind, .ref ysalt, .ref ypace, .ref ymute, .ref ylate, .ref yfrom, .ref yto, .ref ygoal, .ref ynow, .ref ystatus, .ref ytape, .int 0, .int 0, .int 0, .int 0, .int 0, .int 0, .int 0, .int 0, .int 0, .int (-1), .ref yreach, .int (-1), .int 0, .int 0, .int 0, .int 0, .int 0, .ref ymet, .int 1, .ref ypast, .ref yisAt, .ref ywaysTo, .ref ywide, .ref ydiamondFrom, .ref ydiamondTo, .int 0, .int 0, .int 0, .int 0, .ref ynotedPort, .ref ynotedGoal, .ref ynotedHop, .ref ynotedAddress, .ref yfitting, .int 0, .ref yrowThen, .int 0, .int 0, .int 0, .ref yimageRow, .ref ypastThen, .ref ynotedPortThen, .ref ynotedGoalThen, .ref ynotedHopThen, .ref ynotedAddressThen, .ref ystatusThen])), (ynow, .inl (kI, 1019, .inl (upd (fun _ => 0) 54 5)))]) A) args0 s 0 0 A) (F0 m 56 ls []) := by
    intro n
    induction n with
    | zero =>
      intro i a1f H locs ls hi hP hD hS hl
      refine lv_iload_n hx hb dX11_keep_56 rfl (lv_at hl 0 rfl) ?_
      refine lv_sipush (v := 1019) hx hb dX11_keep_57 (by decide) ?_
      refine lv_icmp_ge (tgt := 90) hx hb dX11_keep_60 (by decide) (fun _ => ?_) (fun c9 => absurd (by have h9 : i = 1019 := (by omega); subst h9; decide) c9)
      refine lv_aload_n hx hb dX11_keep_90 rfl (lv_at hl 1 rfl) ?_
      refine lv_dup hx hb dX11_keep_91 rfl ?_
      refine va_get (D := (dC, dI)) (ci := 11) (v := .int 0) (C := RX11) (T := TX11) (N := 61) hx hb hts hin11 hown hK hP 0 rfl rfl 33 (by decide) (hts (.fieldLink RX11 250 "PathProberModel" "acts" "I") (List.mem_of_getElem? (i := 1) (by decide +kernel))) (fun _ h9 => h9) rfl dX11_keep_92 ?_
      refine lv_iconst (v := 1) hx hb dX11_keep_95 (by decide) ?_
      refine lv_iadd hx hb dX11_keep_96 ?_
      refine lv_topi (fun z1 e2 => ?_)
      obtain rfl : z1 = (1 : Int32) := e2.trans (by decide)
      refine va_put (D := (dC, dI)) (ci := 11) (v := .int 1) (ty := .int) (C := RX11) (T := TX11) (N := 61) hx hb hts hin11 tyX11 tyX11_ok nmX11 hown hK hP hD hS 0 rfl rfl 33 (by decide) (hts (.fieldLink RX11 250 "PathProberModel" "acts" "I") (List.mem_of_getElem? (i := 1) (by decide +kernel))) (fun _ h9 => h9) rfl (by decide +kernel) rfl rfl (Nat.le_of_ble_eq_true rfl) dX11_keep_97 (fun H locs hP hD hS => ?_)
      have hP : va_P (dC, dI) vwCl [(m0, .inr (11, [.ref ywords, .ref ykinds, .int 0, .ref ytold, .ref ykind, .ref ysalt, .ref ypace, .ref ymute, .ref ylate, .ref yfrom, .ref yto, .ref ygoal, .ref ynow, .ref ystatus, .ref ytape, .int 0, .int 0, .int 0, .int 0, .int 0, .int 0, .int 0, .int 0, .int 0, .int (-1), .ref yreach, .int (-1), .int 0, .int 0, .int 0, .int 0, .int 0, .ref ymet, .int 1, .ref ypast, .ref yisAt, .ref ywaysTo, .ref ywide, .ref ydiamondFrom, .ref ydiamondTo, .int 0, .int 0, .int 0, .int 0, .ref ynotedPort, .ref ynotedGoal, .ref ynotedHop, .ref ynotedAddress, .ref yfitting, .int 0, .ref yrowThen, .int 0, .int 0, .int 0, .ref yimageRow, .ref ypastThen, .ref ynotedPortThen, .ref ynotedGoalThen, .ref ynotedHopThen, .ref ynotedAddressThen, .ref ystatusThen])), (ypast, .inl (kI, 40760, .inl a1f)), (ynow, .inl (kI, 1019, .inl (upd (fun _ => 0) 54 5)))] H := hP
      have hD : va_D A [(m0, .inr (11, [.ref ywords, .ref ykinds, .int 0, .ref ytold, .ref ykind, .ref ysalt, .ref ypace, .ref ymute, .ref ylate, .ref yfrom, .ref yto, .ref ygoal, .ref ynow, .ref ystatus, .ref ytape, .int 0, .int 0, .int 0, .int 0, .int 0, .int 0, .int 0, .int 0, .int 0, .int (-1), .ref yreach, .int (-1), .int 0, .int 0, .int 0, .int 0, .int 0, .ref ymet, .int 1, .ref ypast, .ref yisAt, .ref ywaysTo, .ref ywide, .ref ydiamondFrom, .ref ydiamondTo, .int 0, .int 0, .int 0, .int 0, .ref ynotedPort, .ref ynotedGoal, .ref ynotedHop, .ref ynotedAddress, .ref yfitting, .int 0, .ref yrowThen, .int 0, .int 0, .int 0, .ref yimageRow, .ref ypastThen, .ref ynotedPortThen, .ref ynotedGoalThen, .ref ynotedHopThen, .ref ynotedAddressThen, .ref ystatusThen])), (ypast, .inl (kI, 40760, .inl a1f)), (ynow, .inl (kI, 1019, .inl (upd (fun _ => 0) 54 5)))] := hD
      have hP9 := hP.sub (ws' := [(m0, .inr (11, [.ref ywords, .ref ykinds, .int 0, .ref ytold, .ref ykind, .ref ysalt, .ref ypace, .ref ymute, .ref ylate, .ref yfrom, .ref yto, .ref ygoal, .ref ynow, .ref ystatus, .ref ytape, .int 0, .int 0, .int 0, .int 0, .int 0, .int 0, .int 0, .int 0, .int 0, .int (-1), .ref yreach, .int (-1), .int 0, .int 0, .int 0, .int 0, .int 0, .ref ymet, .int 1, .ref ypast, .ref yisAt, .ref ywaysTo, .ref ywide, .ref ydiamondFrom, .ref ydiamondTo, .int 0, .int 0, .int 0, .int 0, .ref ynotedPort, .ref ynotedGoal, .ref ynotedHop, .ref ynotedAddress, .ref yfitting, .int 0, .ref yrowThen, .int 0, .int 0, .int 0, .ref yimageRow, .ref ypastThen, .ref ynotedPortThen, .ref ynotedGoalThen, .ref ynotedHopThen, .ref ynotedAddressThen, .ref ystatusThen])), (ynow, .inl (kI, 1019, .inl (upd (fun _ => 0) 54 5)))]) [0, 2] rfl
      have hD9 := hD.sub (ws' := [(m0, .inr (11, [.ref ywords, .ref ykinds, .int 0, .ref ytold, .ref ykind, .ref ysalt, .ref ypace, .ref ymute, .ref ylate, .ref yfrom, .ref yto, .ref ygoal, .ref ynow, .ref ystatus, .ref ytape, .int 0, .int 0, .int 0, .int 0, .int 0, .int 0, .int 0, .int 0, .int 0, .int (-1), .ref yreach, .int (-1), .int 0, .int 0, .int 0, .int 0, .int 0, .ref ymet, .int 1, .ref ypast, .ref yisAt, .ref ywaysTo, .ref ywide, .ref ydiamondFrom, .ref ydiamondTo, .int 0, .int 0, .int 0, .int 0, .ref ynotedPort, .ref ynotedGoal, .ref ynotedHop, .ref ynotedAddress, .ref yfitting, .int 0, .ref yrowThen, .int 0, .int 0, .int 0, .ref yimageRow, .ref ypastThen, .ref ynotedPortThen, .ref ynotedGoalThen, .ref ynotedHopThen, .ref ynotedAddressThen, .ref ystatusThen])), (ynow, .inl (kI, 1019, .inl (upd (fun _ => 0) 54 5)))]) [0, 2] (by decide) rfl
      exact W.vret hx hb hr (fun t ht hW => ⟨⟨(), rfl, trivial, by rw [ht]; exact hP9, hD9⟩, hS.F ht⟩) hS.2.2 dX11_keep_100
    | succ n ih =>
      intro i a1f H locs ls hi hP hD hS hl
      refine lv_iload_n hx hb dX11_keep_56 rfl (lv_at hl 0 rfl) ?_
      refine lv_sipush (v := 1019) hx hb dX11_keep_57 (by decide) ?_
      refine lv_icmp_ge (tgt := 90) hx hb dX11_keep_60 (by decide) (fun c9 => absurd c9 (nI_ge (a := i) (b := 1019) (by omega) (by decide))) (fun _ => ?_)
      refine lv_aload_n hx hb dX11_keep_63 rfl (lv_at hl 1 rfl) ?_
      refine va_get (D := (dC, dI)) (ci := 11) (v := .ref ypast) (C := RX11) (T := TX11) (N := 61) hx hb hts hin11 hown hK hP 0 rfl rfl 34 (by decide) (hts (.fieldLink RX11 84 "PathProberModel" "past" "[I") (List.mem_of_getElem? (i := 2) (by decide +kernel))) (fun _ h9 => h9) rfl dX11_keep_64 ?_
      refine lv_sipush (v := 1019) hx hb dX11_keep_67 (by decide) ?_
      refine lv_aload_n hx hb dX11_keep_70 rfl (lv_at hl 1 rfl) ?_
      refine va_get (D := (dC, dI)) (ci := 11) (v := .int 0) (C := RX11) (T := TX11) (N := 61) hx hb hts hin11 hown hK hP 0 rfl rfl 33 (by decide) (hts (.fieldLink RX11 250 "PathProberModel" "acts" "I") (List.mem_of_getElem? (i := 1) (by decide +kernel))) (fun _ h9 => h9) rfl dX11_keep_71 ?_
      refine lv_imul hx hb dX11_keep_74 ?_
      refine lv_topi (fun z3 e4 => ?_)
      obtain rfl : z3 = (0 : Int32) := e4.trans (by decide)
      refine lv_iload_n hx hb dX11_keep_75 rfl (lv_at hl 0 rfl) ?_
      refine lv_iadd hx hb dX11_keep_76 ?_
      refine lv_topi (fun z5 e6 => ?_)
      obtain rfl : z5 = (nI i : Int32) := e6.trans (Int32.zero_add _)
      refine lv_aload_n hx hb dX11_keep_77 rfl (lv_at hl 1 rfl) ?_
      refine va_get (D := (dC, dI)) (ci := 11) (v := .ref ynow) (C := RX11) (T := TX11) (N := 61) hx hb hts hin11 hown hK hP 0 rfl rfl 12 (by decide) (hts (.fieldLink RX11 60 "PathProberModel" "now" "[I") (List.mem_of_getElem? (i := 3) (by decide +kernel))) (fun _ h9 => h9) rfl dX11_keep_78 ?_
      refine lv_iload_n hx hb dX11_keep_81 rfl (lv_at hl 0 rfl) ?_
      refine va_iald hx hb hK hP 2 1 rfl rfl (vp_in_nI (by omega) (by decide)) dX11_keep_82 ?_
      refine va_iast hx hb hK hP hD hS 1 1 rfl rfl (vp_in_nI (by omega) (by decide)) dX11_keep_83 (fun H locs hP hD hS => ?_)
      have hP : va_P (dC, dI) vwCl [(m0, .inr (11, [.ref ywords, .ref ykinds, .int 0, .ref ytold, .ref ykind, .ref ysalt, .ref ypace, .ref ymute, .ref ylate, .ref yfrom, .ref yto, .ref ygoal, .ref ynow, .ref ystatus, .ref ytape, .int 0, .int 0, .int 0, .int 0, .int 0, .int 0, .int 0, .int 0, .int 0, .int (-1), .ref yreach, .int (-1), .int 0, .int 0, .int 0, .int 0, .int 0, .ref ymet, .int 0, .ref ypast, .ref yisAt, .ref ywaysTo, .ref ywide, .ref ydiamondFrom, .ref ydiamondTo, .int 0, .int 0, .int 0, .int 0, .ref ynotedPort, .ref ynotedGoal, .ref ynotedHop, .ref ynotedAddress, .ref yfitting, .int 0, .ref yrowThen, .int 0, .int 0, .int 0, .ref yimageRow, .ref ypastThen, .ref ynotedPortThen, .ref ynotedGoalThen, .ref ynotedHopThen, .ref ynotedAddressThen, .ref ystatusThen])), (ypast, .inl (kI, 40760, .inl (upd a1f (nI i).toNatClampNeg ((upd (fun _ => 0) 54 5) (nI i).toNatClampNeg)))), (ynow, .inl (kI, 1019, .inl (upd (fun _ => 0) 54 5)))] H := hP
      have hD : va_D A [(m0, .inr (11, [.ref ywords, .ref ykinds, .int 0, .ref ytold, .ref ykind, .ref ysalt, .ref ypace, .ref ymute, .ref ylate, .ref yfrom, .ref yto, .ref ygoal, .ref ynow, .ref ystatus, .ref ytape, .int 0, .int 0, .int 0, .int 0, .int 0, .int 0, .int 0, .int 0, .int 0, .int (-1), .ref yreach, .int (-1), .int 0, .int 0, .int 0, .int 0, .int 0, .ref ymet, .int 0, .ref ypast, .ref yisAt, .ref ywaysTo, .ref ywide, .ref ydiamondFrom, .ref ydiamondTo, .int 0, .int 0, .int 0, .int 0, .ref ynotedPort, .ref ynotedGoal, .ref ynotedHop, .ref ynotedAddress, .ref yfitting, .int 0, .ref yrowThen, .int 0, .int 0, .int 0, .ref yimageRow, .ref ypastThen, .ref ynotedPortThen, .ref ynotedGoalThen, .ref ynotedHopThen, .ref ynotedAddressThen, .ref ystatusThen])), (ypast, .inl (kI, 40760, .inl (upd a1f (nI i).toNatClampNeg ((upd (fun _ => 0) 54 5) (nI i).toNatClampNeg)))), (ynow, .inl (kI, 1019, .inl (upd (fun _ => 0) 54 5)))] := hD
      refine lv_iinc (v := nI (i + 1)) (lv' := [(1, .int (nI (i + 1))), (0, .ref m0)]) hx hb dX11_keep_84 hl (k := 0) rfl (nI_1 i) (by decide) rfl (fun ls hl => ?_)
      refine lv_goto (tgt := 56) hx hb dX11_keep_87 (by decide) ?_
      exact ih (i + 1) (upd a1f (nI i).toNatClampNeg ((upd (fun _ => 0) 54 5) (nI i).toNatClampNeg)) _ _ _ (by omega) (hP.sub [0, 1, 2] rfl) (hD.sub [0, 1, 2] (by decide) rfl) hS (lv_sub hl [0, 1] rfl)
  exact hloop56 1019 0 (fun _ => 0) _ _ _ (Nat.zero_add _) hP hD hS (lv_sub hl [0, 1] rfl)
def rm_k11_loss_in : Room := { frames := 1, cells := 0, slots := 0, locals := 22 }
set_option maxHeartbeats 4000000 in
set_option maxRecDepth 100000 in
theorem k11_loss_in (l : Launch) (dC : Nat → ClassId) (dI : Nat → Nat → Nat) (kB kI kJ kZ kC kS : ClassId) (sz : Nat) (m0 : Nat) (ywords : Nat) (ykinds : Nat) (ytold : Nat) (ykind : Nat) (ysalt : Nat) (ypace : Nat) (ymute : Nat) (ylate : Nat) (yfrom : Nat) (yto : Nat) (ygoal : Nat) (ynow : Nat) (ystatus : Nat) (ytape : Nat) (yreach : Nat) (ymet : Nat) (ypast : Nat) (yisAt : Nat) (ywaysTo : Nat) (ywide : Nat) (ydiamondFrom : Nat) (ydiamondTo : Nat) (ynotedPort : Nat) (ynotedGoal : Nat) (ynotedHop : Nat) (ynotedAddress : Nat) (yfitting : Nat) (yrowThen : Nat) (yimageRow : Nat) (ypastThen : Nat) (ynotedPortThen : Nat) (ynotedGoalThen : Nat) (ynotedHopThen : Nat) (ynotedAddressThen : Nat) (ystatusThen : Nat) (p0 : Int32) (hc0 : 1 ≤ p0) (hc1 : p0 ≤ 50) : Met l yX11_loss wsX11_loss rm_k11_loss_in (va_Pc [.ref m0, .int p0] (fun U => U.heap.size = sz ∧ va_P (dC, dI) vwCl [(m0, .inr (11, [.ref ywords, .ref ykinds, .int 0, .ref ytold, .ref ykind, .ref ysalt, .ref ypace, .ref ymute, .ref ylate, .ref yfrom, .ref yto, .ref ygoal, .ref ynow, .ref ystatus, .ref ytape, .int 0, .int 0, .int 0, .int 0, .int 0, .int 0, .int 0, .int 0, .int 0, .int (-1), .ref yreach, .int (-1), .int 0, .int 0, .int 0, .int 0, .int 0, .ref ymet, .int 0, .ref ypast, .ref yisAt, .ref ywaysTo, .ref ywide, .ref ydiamondFrom, .ref ydiamondTo, .int 0, .int 0, .int 0, .int 0, .ref ynotedPort, .ref ynotedGoal, .ref ynotedHop, .ref ynotedAddress, .ref yfitting, .int 0, .ref yrowThen, .int 0, .int 0, .int 0, .ref yimageRow, .ref ypastThen, .ref ynotedPortThen, .ref ynotedGoalThen, .ref ynotedHopThen, .ref ynotedAddressThen, .ref ystatusThen])), (ypast, .inl (kI, 40760, .inl (fun _ => 0))), (ynow, .inl (kI, 1019, .inl (upd (fun _ => 0) 54 5)))] U.heap ∧ kE dC dI kB kI kJ kZ kC kS U ∧ va_D (fun _ => True) [(m0, .inr (11, [.ref ywords, .ref ykinds, .int 0, .ref ytold, .ref ykind, .ref ysalt, .ref ypace, .ref ymute, .ref ylate, .ref yfrom, .ref yto, .ref ygoal, .ref ynow, .ref ystatus, .ref ytape, .int 0, .int 0, .int 0, .int 0, .int 0, .int 0, .int 0, .int 0, .int 0, .int (-1), .ref yreach, .int (-1), .int 0, .int 0, .int 0, .int 0, .int 0, .ref ymet, .int 0, .ref ypast, .ref yisAt, .ref ywaysTo, .ref ywide, .ref ydiamondFrom, .ref ydiamondTo, .int 0, .int 0, .int 0, .int 0, .ref ynotedPort, .ref ynotedGoal, .ref ynotedHop, .ref ynotedAddress, .ref yfitting, .int 0, .ref yrowThen, .int 0, .int 0, .int 0, .ref yimageRow, .ref ypastThen, .ref ynotedPortThen, .ref ynotedGoalThen, .ref ynotedHopThen, .ref ynotedAddressThen, .ref ystatusThen])), (ypast, .inl (kI, 40760, .inl (fun _ => 0))), (ynow, .inl (kI, 1019, .inl (upd (fun _ => 0) 54 5)))])) (va_Qi (fun (r : Int32) (_ : Unit) => r = 5) (fun _ t => va_P (dC, dI) vwCl [] t.heap ∧ va_D (va_A [(m0, .inr (11, [.ref ywords, .ref ykinds, .int 0, .ref ytold, .ref ykind, .ref ysalt, .ref ypace, .ref ymute, .ref ylate, .ref yfrom, .ref yto, .ref ygoal, .ref ynow, .ref ystatus, .ref ytape, .int 0, .int 0, .int 0, .int 0, .int 0, .int 0, .int 0, .int 0, .int 0, .int (-1), .ref yreach, .int (-1), .int 0, .int 0, .int 0, .int 0, .int 0, .ref ymet, .int 0, .ref ypast, .ref yisAt, .ref ywaysTo, .ref ywide, .ref ydiamondFrom, .ref ydiamondTo, .int 0, .int 0, .int 0, .int 0, .ref ynotedPort, .ref ynotedGoal, .ref ynotedHop, .ref ynotedAddress, .ref yfitting, .int 0, .ref yrowThen, .int 0, .int 0, .int 0, .ref yimageRow, .ref ypastThen, .ref ynotedPortThen, .ref ynotedGoalThen, .ref ynotedHopThen, .ref ynotedAddressThen, .ref ystatusThen])), (ypast, .inl (kI, 40760, .inl (fun _ => 0))), (ynow, .inl (kI, 1019, .inl (upd (fun _ => 0) 54 5)))] sz) []) (va_A [(m0, .inr (11, [.ref ywords, .ref ykinds, .int 0, .ref ytold, .ref ykind, .ref ysalt, .ref ypace, .ref ymute, .ref ylate, .ref yfrom, .ref yto, .ref ygoal, .ref ynow, .ref ystatus, .ref ytape, .int 0, .int 0, .int 0, .int 0, .int 0, .int 0, .int 0, .int 0, .int 0, .int (-1), .ref yreach, .int (-1), .int 0, .int 0, .int 0, .int 0, .int 0, .ref ymet, .int 0, .ref ypast, .ref yisAt, .ref ywaysTo, .ref ywide, .ref ydiamondFrom, .ref ydiamondTo, .int 0, .int 0, .int 0, .int 0, .ref ynotedPort, .ref ynotedGoal, .ref ynotedHop, .ref ynotedAddress, .ref yfitting, .int 0, .ref yrowThen, .int 0, .int 0, .int 0, .ref yimageRow, .ref ypastThen, .ref ynotedPortThen, .ref ynotedGoalThen, .ref ynotedHopThen, .ref ynotedAddressThen, .ref ystatusThen])), (ypast, .inl (kI, 40760, .inl (fun _ => 0))), (ynow, .inl (kI, 1019, .inl (upd (fun _ => 0) 54 5)))] sz)) 0 0 (va_A [(m0, .inr (11, [.ref ywords, .ref ykinds, .int 0, .ref ytold, .ref ykind, .ref ysalt, .ref ypace, .ref ymute, .ref ylate, .ref yfrom, .ref yto, .ref ygoal, .ref ynow, .ref ystatus, .ref ytape, .int 0, .int 0, .int 0, .int 0, .int 0, .int 0, .int 0, .int 0, .int 0, .int (-1), .ref yreach, .int (-1), .int 0, .int 0, .int 0, .int 0, .int 0, .ref ymet, .int 0, .ref ypast, .ref yisAt, .ref ywaysTo, .ref ywide, .ref ydiamondFrom, .ref ydiamondTo, .int 0, .int 0, .int 0, .int 0, .ref ynotedPort, .ref ynotedGoal, .ref ynotedHop, .ref ynotedAddress, .ref yfitting, .int 0, .ref yrowThen, .int 0, .int 0, .int 0, .ref yimageRow, .ref ypastThen, .ref ynotedPortThen, .ref ynotedGoalThen, .ref ynotedHopThen, .ref ynotedAddressThen, .ref ystatusThen])), (ypast, .inl (kI, 40760, .inl (fun _ => 0))), (ynow, .inl (kI, 1019, .inl (upd (fun _ => 0) 54 5)))] sz) := by
  refine Met.ofW (cc := cX11_loss) (maxL := 3) (ret := (some .int)) (by decide) rfl ?_
  intro p e s m args0 below meth c s₁ B hml hv
  obtain ⟨hargs, hsz, hP, hE, hD0⟩ := hv
  have hx := B.exec
  have hb := B.bytes
  have hr := B.returns
  have hts := atoms_spec (ws := wsX11_loss) B.pre
  have hown : s.vm.findClass RX11 = some m.cls := findClass_of_methodNamed B.named
  have hlocks := B.notSynchronized
  have hK := hE.1
  have hin11 : ∀ w ∈ wsX110, w ∈ wsX11_loss := fun _ h9 => List.mem_cons_of_mem _ (List.mem_append_right _ h9)
  subst hsz
  have hD := hD0.self (sz := s.heap.size)
  generalize hAe : va_A [(m0, .inr (11, [.ref ywords, .ref ykinds, .int 0, .ref ytold, .ref ykind, .ref ysalt, .ref ypace, .ref ymute, .ref ylate, .ref yfrom, .ref yto, .ref ygoal, .ref ynow, .ref ystatus, .ref ytape, .int 0, .int 0, .int 0, .int 0, .int 0, .int 0, .int 0, .int 0, .int 0, .int (-1), .ref yreach, .int (-1), .int 0, .int 0, .int 0, .int 0, .int 0, .ref ymet, .int 0, .ref ypast, .ref yisAt, .ref ywaysTo, .ref ywide, .ref ydiamondFrom, .ref ydiamondTo, .int 0, .int 0, .int 0, .int 0, .ref ynotedPort, .ref ynotedGoal, .ref ynotedHop, .ref ynotedAddress, .ref yfitting, .int 0, .ref yrowThen, .int 0, .int 0, .int 0, .ref yimageRow, .ref ypastThen, .ref ynotedPortThen, .ref ynotedGoalThen, .ref ynotedHopThen, .ref ynotedAddressThen, .ref ystatusThen])), (ypast, .inl (kI, 40760, .inl (fun _ => 0))), (ynow, .inl (kI, 1019, .inl (upd (fun _ => 0) 54 5)))] s.heap.size = A at hD ⊢
  have hA : ∀ q : Nat, s.heap.size ≤ q → A q := fun q h => by rw [← hAe]; exact Or.inr h
  have hS : va_S A s.heap s.heap [] := va_S.rf
  have hP : va_P (dC, dI) vwCl [(m0, .inr (11, [.ref ywords, .ref ykinds, .int 0, .ref ytold, .ref ykind, .ref ysalt, .ref ypace, .ref ymute, .ref ylate, .ref yfrom, .ref yto, .ref ygoal, .ref ynow, .ref ystatus, .ref ytape, .int 0, .int 0, .int 0, .int 0, .int 0, .int 0, .int 0, .int 0, .int 0, .int (-1), .ref yreach, .int (-1), .int 0, .int 0, .int 0, .int 0, .int 0, .ref ymet, .int 0, .ref ypast, .ref yisAt, .ref ywaysTo, .ref ywide, .ref ydiamondFrom, .ref ydiamondTo, .int 0, .int 0, .int 0, .int 0, .ref ynotedPort, .ref ynotedGoal, .ref ynotedHop, .ref ynotedAddress, .ref yfitting, .int 0, .ref yrowThen, .int 0, .int 0, .int 0, .ref yimageRow, .ref ypastThen, .ref ynotedPortThen, .ref ynotedGoalThen, .ref ynotedHopThen, .ref ynotedAddressThen, .ref ystatusThen])), (ypast, .inl (kI, 40760, .inl (fun _ => 0))), (ynow, .inl (kI, 1019, .inl (upd (fun _ => 0) 54 5)))] s.heap := hP
  have hl := lv_entry ([.ref m0, .int p0]) (n := 3) (Nat.le_of_ble_eq_true rfl)
  have hla : entryFrame m args0 3 = entryFrame m ([.ref m0, .int p0] : List Value).toArray 3 := by rw [hargs]
  rw [hla, lg_entry_eq]
  generalize (lg_sl ([.ref m0, .int p0]) ++ List.replicate (3 - (lg_sl ([.ref m0, .int p0])).length) Slot.unset).toArray = ls at hl ⊢
  have hl : lv_has ls 3 [(0, .ref m0), (1, .int p0)] := hl
  refine lv_aload_n hx hb dX11_loss_0 rfl (lv_at hl 0 rfl) ?_
  refine lv_iconst (v := 0) hx hb dX11_loss_1 (by decide) ?_
  refine va_put (D := (dC, dI)) (ci := 11) (v := .int 0) (ty := .int) (C := RX11) (T := TX11) (N := 61) hx hb hts hin11 tyX11 tyX11_ok nmX11 hown hK hP hD hS 0 rfl rfl 2 (by decide) (hts (.fieldLink RX11 142 "PathProberModel" "code" "I") (List.mem_of_getElem? (i := 1) (by decide +kernel))) (fun _ h9 => h9) rfl (by decide +kernel) rfl rfl (Nat.le_of_ble_eq_true rfl) dX11_loss_2 (fun H locs hP hD hS => ?_)
  have hP : va_P (dC, dI) vwCl [(m0, .inr (11, [.ref ywords, .ref ykinds, .int 0, .ref ytold, .ref ykind, .ref ysalt, .ref ypace, .ref ymute, .ref ylate, .ref yfrom, .ref yto, .ref ygoal, .ref ynow, .ref ystatus, .ref ytape, .int 0, .int 0, .int 0, .int 0, .int 0, .int 0, .int 0, .int 0, .int 0, .int (-1), .ref yreach, .int (-1), .int 0, .int 0, .int 0, .int 0, .int 0, .ref ymet, .int 0, .ref ypast, .ref yisAt, .ref ywaysTo, .ref ywide, .ref ydiamondFrom, .ref ydiamondTo, .int 0, .int 0, .int 0, .int 0, .ref ynotedPort, .ref ynotedGoal, .ref ynotedHop, .ref ynotedAddress, .ref yfitting, .int 0, .ref yrowThen, .int 0, .int 0, .int 0, .ref yimageRow, .ref ypastThen, .ref ynotedPortThen, .ref ynotedGoalThen, .ref ynotedHopThen, .ref ynotedAddressThen, .ref ystatusThen])), (ypast, .inl (kI, 40760, .inl (fun _ => 0))), (ynow, .inl (kI, 1019, .inl (upd (fun _ => 0) 54 5)))] H := hP
  have hD : va_D A [(m0, .inr (11, [.ref ywords, .ref ykinds, .int 0, .ref ytold, .ref ykind, .ref ysalt, .ref ypace, .ref ymute, .ref ylate, .ref yfrom, .ref yto, .ref ygoal, .ref ynow, .ref ystatus, .ref ytape, .int 0, .int 0, .int 0, .int 0, .int 0, .int 0, .int 0, .int 0, .int 0, .int (-1), .ref yreach, .int (-1), .int 0, .int 0, .int 0, .int 0, .int 0, .ref ymet, .int 0, .ref ypast, .ref yisAt, .ref ywaysTo, .ref ywide, .ref ydiamondFrom, .ref ydiamondTo, .int 0, .int 0, .int 0, .int 0, .ref ynotedPort, .ref ynotedGoal, .ref ynotedHop, .ref ynotedAddress, .ref yfitting, .int 0, .ref yrowThen, .int 0, .int 0, .int 0, .ref yimageRow, .ref ypastThen, .ref ynotedPortThen, .ref ynotedGoalThen, .ref ynotedHopThen, .ref ynotedAddressThen, .ref ystatusThen])), (ypast, .inl (kI, 40760, .inl (fun _ => 0))), (ynow, .inl (kI, 1019, .inl (upd (fun _ => 0) 54 5)))] := hD
  refine lv_iload_n hx hb dX11_loss_5 rfl (lv_at hl 1 rfl) ?_
  refine lv_iconst (v := 1) hx hb dX11_loss_6 (by decide) ?_
  refine lv_bipush (v := 50) hx hb dX11_loss_7 (by decide) ?_
  have hPc := hP.sub (ws' := []) [] rfl
  have hDc := hD.sub (ws' := []) [] (by decide) rfl
  have hFc := va_free (wc := []) hD hS hA [] rfl
  refine va_calli (va_runS (As := [.int p0, .int 1, .int 50]) (rest := []) ⟨hx, hb, hml, hown, hts⟩ (k11_isIn_in l dC dI kB kI kJ kZ kC kS H.size p0 1 50 (by have hhc0 := hc0; have hhc1 := hc1; simp only [Int32.lt_iff_toInt_lt, Int32.le_iff_toInt_le, ← Int32.toInt_inj, (by decide : (0 : Int32).toInt = 0), (by decide : (1 : Int32).toInt = 1), (by decide : (50 : Int32).toInt = 50)] at hhc0 hhc1 ⊢; omega) (by have hhc0 := hc0; have hhc1 := hc1; simp only [Int32.lt_iff_toInt_lt, Int32.le_iff_toInt_le, ← Int32.toInt_inj, (by decide : (0 : Int32).toInt = 0), (by decide : (1 : Int32).toInt = 1), (by decide : (50 : Int32).toInt = 50)] at hhc0 hhc1 ⊢; omega)) (va_cwS 3 hts gX11_loss_X11_isIn rfl rfl rfl (by decide +kernel) ⟨Nat.le_of_ble_eq_true rfl, Nat.le_of_ble_eq_true rfl⟩) ⟨fun a U g mk q => by obtain ⟨q0, q1, qP, qE, qD⟩ := q; exact ⟨q0, q1, qP, kE_call qE, qD⟩, fun U hU hW => ⟨rfl, by rw [hU], by rw [hU]; exact hPc, kE_warm hW hE, hDc.weaken (fun _ _ _ _ => trivial)⟩⟩ rfl rfl hl.1 rfl (lv_room (Nat.le_of_ble_eq_true rfl)) dX11_loss_9 ⟨Nat.le_of_ble_eq_true rfl, Nat.le_of_ble_eq_true rfl⟩) hS (fun q _ h => hFc q h) hFc (fun r1 u t H1 locs ht hvm w2 hB hz1 hk1 hS => ?_)
  obtain ⟨hP1, hD1⟩ := hB
  rw [ht] at hP1
  try dsimp only at w2
  obtain ⟨hP, hD⟩ := va_join (wr := [(m0, .inr (11, [.ref ywords, .ref ykinds, .int 0, .ref ytold, .ref ykind, .ref ysalt, .ref ypace, .ref ymute, .ref ylate, .ref yfrom, .ref yto, .ref ygoal, .ref ynow, .ref ystatus, .ref ytape, .int 0, .int 0, .int 0, .int 0, .int 0, .int 0, .int 0, .int 0, .int 0, .int (-1), .ref yreach, .int (-1), .int 0, .int 0, .int 0, .int 0, .int 0, .ref ymet, .int 0, .ref ypast, .ref yisAt, .ref ywaysTo, .ref ywide, .ref ydiamondFrom, .ref ydiamondTo, .int 0, .int 0, .int 0, .int 0, .ref ynotedPort, .ref ynotedGoal, .ref ynotedHop, .ref ynotedAddress, .ref yfitting, .int 0, .ref yrowThen, .int 0, .int 0, .int 0, .ref yimageRow, .ref ypastThen, .ref ynotedPortThen, .ref ynotedGoalThen, .ref ynotedHopThen, .ref ynotedAddressThen, .ref ystatusThen])), (ypast, .inl (kI, 40760, .inl (fun _ => 0))), (ynow, .inl (kI, 1019, .inl (upd (fun _ => 0) 54 5)))]) (w1 := []) hP hD [] [0, 1, 2] rfl rfl (by decide) (by decide) hk1 hFc hP1 hD1
  generalize H1 = H at hP hS ⊢
  have hP : va_P (dC, dI) vwCl [(m0, .inr (11, [.ref ywords, .ref ykinds, .int 0, .ref ytold, .ref ykind, .ref ysalt, .ref ypace, .ref ymute, .ref ylate, .ref yfrom, .ref yto, .ref ygoal, .ref ynow, .ref ystatus, .ref ytape, .int 0, .int 0, .int 0, .int 0, .int 0, .int 0, .int 0, .int 0, .int 0, .int (-1), .ref yreach, .int (-1), .int 0, .int 0, .int 0, .int 0, .int 0, .ref ymet, .int 0, .ref ypast, .ref yisAt, .ref ywaysTo, .ref ywide, .ref ydiamondFrom, .ref ydiamondTo, .int 0, .int 0, .int 0, .int 0, .ref ynotedPort, .ref ynotedGoal, .ref ynotedHop, .ref ynotedAddress, .ref yfitting, .int 0, .ref yrowThen, .int 0, .int 0, .int 0, .ref yimageRow, .ref ypastThen, .ref ynotedPortThen, .ref ynotedGoalThen, .ref ynotedHopThen, .ref ynotedAddressThen, .ref ystatusThen])), (ypast, .inl (kI, 40760, .inl (fun _ => 0))), (ynow, .inl (kI, 1019, .inl (upd (fun _ => 0) 54 5)))] H := hP
  have hD : va_D A [(m0, .inr (11, [.ref ywords, .ref ykinds, .int 0, .ref ytold, .ref ykind, .ref ysalt, .ref ypace, .ref ymute, .ref ylate, .ref yfrom, .ref yto, .ref ygoal, .ref ynow, .ref ystatus, .ref ytape, .int 0, .int 0, .int 0, .int 0, .int 0, .int 0, .int 0, .int 0, .int 0, .int (-1), .ref yreach, .int (-1), .int 0, .int 0, .int 0, .int 0, .int 0, .ref ymet, .int 0, .ref ypast, .ref yisAt, .ref ywaysTo, .ref ywide, .ref ydiamondFrom, .ref ydiamondTo, .int 0, .int 0, .int 0, .int 0, .ref ynotedPort, .ref ynotedGoal, .ref ynotedHop, .ref ynotedAddress, .ref yfitting, .int 0, .ref yrowThen, .int 0, .int 0, .int 0, .ref yimageRow, .ref ypastThen, .ref ynotedPortThen, .ref ynotedGoalThen, .ref ynotedHopThen, .ref ynotedAddressThen, .ref ystatusThen])), (ypast, .inl (kI, 40760, .inl (fun _ => 0))), (ynow, .inl (kI, 1019, .inl (upd (fun _ => 0) 54 5)))] := hD
  refine W.widen (k := 0) (n := 0) (Nat.le_of_ble_eq_true rfl) (Nat.le_of_ble_eq_true rfl) ?_
  subst w2
  refine lv_if_ne (tgt := 21) hx hb dX11_loss_12 (by decide) (fun _ => ?_) (fun c9 => absurd c9 (by decide))
  refine lv_aload_n hx hb dX11_loss_21 rfl (lv_at hl 0 rfl) ?_
  have hPc := hP.sub (ws' := [(m0, .inr (11, [.ref ywords, .ref ykinds, .int 0, .ref ytold, .ref ykind, .ref ysalt, .ref ypace, .ref ymute, .ref ylate, .ref yfrom, .ref yto, .ref ygoal, .ref ynow, .ref ystatus, .ref ytape, .int 0, .int 0, .int 0, .int 0, .int 0, .int 0, .int 0, .int 0, .int 0, .int (-1), .ref yreach, .int (-1), .int 0, .int 0, .int 0, .int 0, .int 0, .ref ymet, .int 0, .ref ypast, .ref yisAt, .ref ywaysTo, .ref ywide, .ref ydiamondFrom, .ref ydiamondTo, .int 0, .int 0, .int 0, .int 0, .ref ynotedPort, .ref ynotedGoal, .ref ynotedHop, .ref ynotedAddress, .ref yfitting, .int 0, .ref yrowThen, .int 0, .int 0, .int 0, .ref yimageRow, .ref ypastThen, .ref ynotedPortThen, .ref ynotedGoalThen, .ref ynotedHopThen, .ref ynotedAddressThen, .ref ystatusThen])), (ypast, .inl (kI, 40760, .inl (fun _ => 0))), (ynow, .inl (kI, 1019, .inl (upd (fun _ => 0) 54 5)))]) [0, 1, 2] rfl
  have hDc := hD.sub (ws' := [(m0, .inr (11, [.ref ywords, .ref ykinds, .int 0, .ref ytold, .ref ykind, .ref ysalt, .ref ypace, .ref ymute, .ref ylate, .ref yfrom, .ref yto, .ref ygoal, .ref ynow, .ref ystatus, .ref ytape, .int 0, .int 0, .int 0, .int 0, .int 0, .int 0, .int 0, .int 0, .int 0, .int (-1), .ref yreach, .int (-1), .int 0, .int 0, .int 0, .int 0, .int 0, .ref ymet, .int 0, .ref ypast, .ref yisAt, .ref ywaysTo, .ref ywide, .ref ydiamondFrom, .ref ydiamondTo, .int 0, .int 0, .int 0, .int 0, .ref ynotedPort, .ref ynotedGoal, .ref ynotedHop, .ref ynotedAddress, .ref yfitting, .int 0, .ref yrowThen, .int 0, .int 0, .int 0, .ref yimageRow, .ref ypastThen, .ref ynotedPortThen, .ref ynotedGoalThen, .ref ynotedHopThen, .ref ynotedAddressThen, .ref ystatusThen])), (ypast, .inl (kI, 40760, .inl (fun _ => 0))), (ynow, .inl (kI, 1019, .inl (upd (fun _ => 0) 54 5)))]) [0, 1, 2] (by decide) rfl
  have hFc := va_free (wc := [(m0, .inr (11, [.ref ywords, .ref ykinds, .int 0, .ref ytold, .ref ykind, .ref ysalt, .ref ypace, .ref ymute, .ref ylate, .ref yfrom, .ref yto, .ref ygoal, .ref ynow, .ref ystatus, .ref ytape, .int 0, .int 0, .int 0, .int 0, .int 0, .int 0, .int 0, .int 0, .int 0, .int (-1), .ref yreach, .int (-1), .int 0, .int 0, .int 0, .int 0, .int 0, .ref ymet, .int 0, .ref ypast, .ref yisAt, .ref ywaysTo, .ref ywide, .ref ydiamondFrom, .ref ydiamondTo, .int 0, .int 0, .int 0, .int 0, .ref ynotedPort, .ref ynotedGoal, .ref ynotedHop, .ref ynotedAddress, .ref yfitting, .int 0, .ref yrowThen, .int 0, .int 0, .int 0, .ref yimageRow, .ref ypastThen, .ref ynotedPortThen, .ref ynotedGoalThen, .ref ynotedHopThen, .ref ynotedAddressThen, .ref ystatusThen])), (ypast, .inl (kI, 40760, .inl (fun _ => 0))), (ynow, .inl (kI, 1019, .inl (upd (fun _ => 0) 54 5)))]) hD hS hA [0, 1, 2] rfl
  refine va_callv (va_runV (As := []) (rest := []) ⟨hx, hb, hml, hown, hts⟩ (k11_keep l dC dI kB kI kJ kZ kC kS H.size m0 ywords ykinds ytold ykind ysalt ypace ymute ylate yfrom yto ygoal ynow ystatus ytape yreach ymet ypast yisAt ywaysTo ywide ydiamondFrom ydiamondTo ynotedPort ynotedGoal ynotedHop ynotedAddress yfitting yrowThen yimageRow ypastThen ynotedPortThen ynotedGoalThen ynotedHopThen ynotedAddressThen ystatusThen) (cwV 0 hts gX11_loss_X11_keep rfl rfl rfl (by decide +kernel) ⟨Nat.le_of_ble_eq_true rfl, Nat.le_of_ble_eq_true rfl⟩) ⟨fun a U g mk q => by obtain ⟨q0, q1, qP, qE, qD⟩ := q; exact ⟨q0, q1, qP, kE_call qE, qD⟩, va_recv hK hP (ci := 11) (q0 := 0) rfl rfl, fun U hU hW => ⟨rfl, by rw [hU], by rw [hU]; exact hPc, kE_warm hW hE, hDc.weaken (fun _ _ _ _ => trivial)⟩⟩ rfl rfl hl.1 rfl (lv_room (Nat.le_of_ble_eq_true rfl)) dX11_loss_22 ⟨Nat.le_of_ble_eq_true rfl, Nat.le_of_ble_eq_true rfl⟩) hS (fun q _ h => hFc q h) hFc (fun u t H1 locs ht hvm w4 hB hz1 hk1 hS => ?_)
  obtain ⟨hP1, hD1⟩ := hB
  rw [ht] at hP1
  try dsimp only at w4
  obtain ⟨hP, hD⟩ := va_join (wr := []) (w1 := [(m0, .inr (11, [.ref ywords, .ref ykinds, .int 0, .ref ytold, .ref ykind, .ref ysalt, .ref ypace, .ref ymute, .ref ylate, .ref yfrom, .ref yto, .ref ygoal, .ref ynow, .ref ystatus, .ref ytape, .int 0, .int 0, .int 0, .int 0, .int 0, .int 0, .int 0, .int 0, .int 0, .int (-1), .ref yreach, .int (-1), .int 0, .int 0, .int 0, .int 0, .int 0, .ref ymet, .int 1, .ref ypast, .ref yisAt, .ref ywaysTo, .ref ywide, .ref ydiamondFrom, .ref ydiamondTo, .int 0, .int 0, .int 0, .int 0, .ref ynotedPort, .ref ynotedGoal, .ref ynotedHop, .ref ynotedAddress, .ref yfitting, .int 0, .ref yrowThen, .int 0, .int 0, .int 0, .ref yimageRow, .ref ypastThen, .ref ynotedPortThen, .ref ynotedGoalThen, .ref ynotedHopThen, .ref ynotedAddressThen, .ref ystatusThen])), (ynow, .inl (kI, 1019, .inl (upd (fun _ => 0) 54 5)))]) hP hD [0, 1, 2] [] rfl rfl (by decide) (by decide) hk1 hFc hP1 hD1
  generalize H1 = H at hP hS ⊢
  have hP : va_P (dC, dI) vwCl [(m0, .inr (11, [.ref ywords, .ref ykinds, .int 0, .ref ytold, .ref ykind, .ref ysalt, .ref ypace, .ref ymute, .ref ylate, .ref yfrom, .ref yto, .ref ygoal, .ref ynow, .ref ystatus, .ref ytape, .int 0, .int 0, .int 0, .int 0, .int 0, .int 0, .int 0, .int 0, .int 0, .int (-1), .ref yreach, .int (-1), .int 0, .int 0, .int 0, .int 0, .int 0, .ref ymet, .int 1, .ref ypast, .ref yisAt, .ref ywaysTo, .ref ywide, .ref ydiamondFrom, .ref ydiamondTo, .int 0, .int 0, .int 0, .int 0, .ref ynotedPort, .ref ynotedGoal, .ref ynotedHop, .ref ynotedAddress, .ref yfitting, .int 0, .ref yrowThen, .int 0, .int 0, .int 0, .ref yimageRow, .ref ypastThen, .ref ynotedPortThen, .ref ynotedGoalThen, .ref ynotedHopThen, .ref ynotedAddressThen, .ref ystatusThen])), (ynow, .inl (kI, 1019, .inl (upd (fun _ => 0) 54 5)))] H := hP
  have hD : va_D A [(m0, .inr (11, [.ref ywords, .ref ykinds, .int 0, .ref ytold, .ref ykind, .ref ysalt, .ref ypace, .ref ymute, .ref ylate, .ref yfrom, .ref yto, .ref ygoal, .ref ynow, .ref ystatus, .ref ytape, .int 0, .int 0, .int 0, .int 0, .int 0, .int 0, .int 0, .int 0, .int 0, .int (-1), .ref yreach, .int (-1), .int 0, .int 0, .int 0, .int 0, .int 0, .ref ymet, .int 1, .ref ypast, .ref yisAt, .ref ywaysTo, .ref ywide, .ref ydiamondFrom, .ref ydiamondTo, .int 0, .int 0, .int 0, .int 0, .ref ynotedPort, .ref ynotedGoal, .ref ynotedHop, .ref ynotedAddress, .ref yfitting, .int 0, .ref yrowThen, .int 0, .int 0, .int 0, .ref yimageRow, .ref ypastThen, .ref ynotedPortThen, .ref ynotedGoalThen, .ref ynotedHopThen, .ref ynotedAddressThen, .ref ystatusThen])), (ynow, .inl (kI, 1019, .inl (upd (fun _ => 0) 54 5)))] := hD
  refine W.widen (k := 0) (n := 0) (Nat.le_of_ble_eq_true rfl) (Nat.le_of_ble_eq_true rfl) ?_
  refine lv_aload_n hx hb dX11_loss_25 rfl (lv_at hl 0 rfl) ?_
  refine va_get (D := (dC, dI)) (ci := 11) (v := .ref ynow) (C := RX11) (T := TX11) (N := 61) hx hb hts hin11 hown hK hP 0 rfl rfl 12 (by decide) (hts (.fieldLink RX11 60 "PathProberModel" "now" "[I") (List.mem_of_getElem? (i := 2) (by decide +kernel))) (fun _ h9 => h9) rfl dX11_loss_26 ?_
  refine lv_bipush (v := 54) hx hb dX11_loss_29 (by decide) ?_
  refine va_iald hx hb hK hP 1 1 rfl rfl (vp_in_nI (n := 54) (by decide) (by decide)) dX11_loss_31 ?_
  refine lv_topi (fun z5 e6 => ?_)
  obtain rfl : z5 = (5 : Int32) := e6.trans (by decide)
  refine lv_istore_n (lv' := [(2, .int 5), (0, .ref m0), (1, .int p0)]) hx hb dX11_loss_32 rfl hl (by decide) rfl (fun ls hl => ?_)
  refine lv_aload_n hx hb dX11_loss_33 rfl (lv_at hl 1 rfl) ?_
  refine va_get (D := (dC, dI)) (ci := 11) (v := .ref ynow) (C := RX11) (T := TX11) (N := 61) hx hb hts hin11 hown hK hP 0 rfl rfl 12 (by decide) (hts (.fieldLink RX11 60 "PathProberModel" "now" "[I") (List.mem_of_getElem? (i := 2) (by decide +kernel))) (fun _ h9 => h9) rfl dX11_loss_34 ?_
  refine lv_bipush (v := 54) hx hb dX11_loss_37 (by decide) ?_
  refine lv_iload_n hx hb dX11_loss_39 rfl (lv_at hl 2 rfl) ?_
  refine va_iast hx hb hK hP hD hS 1 1 rfl rfl (vp_in_nI (n := 54) (by decide) (by decide)) dX11_loss_40 (fun H locs hP hD hS => ?_)
  have hP : va_P (dC, dI) vwCl [(m0, .inr (11, [.ref ywords, .ref ykinds, .int 0, .ref ytold, .ref ykind, .ref ysalt, .ref ypace, .ref ymute, .ref ylate, .ref yfrom, .ref yto, .ref ygoal, .ref ynow, .ref ystatus, .ref ytape, .int 0, .int 0, .int 0, .int 0, .int 0, .int 0, .int 0, .int 0, .int 0, .int (-1), .ref yreach, .int (-1), .int 0, .int 0, .int 0, .int 0, .int 0, .ref ymet, .int 1, .ref ypast, .ref yisAt, .ref ywaysTo, .ref ywide, .ref ydiamondFrom, .ref ydiamondTo, .int 0, .int 0, .int 0, .int 0, .ref ynotedPort, .ref ynotedGoal, .ref ynotedHop, .ref ynotedAddress, .ref yfitting, .int 0, .ref yrowThen, .int 0, .int 0, .int 0, .ref yimageRow, .ref ypastThen, .ref ynotedPortThen, .ref ynotedGoalThen, .ref ynotedHopThen, .ref ynotedAddressThen, .ref ystatusThen])), (ynow, .inl (kI, 1019, .inl (upd (upd (fun _ => 0) 54 5) 54 p0)))] H := hP
  have hD : va_D A [(m0, .inr (11, [.ref ywords, .ref ykinds, .int 0, .ref ytold, .ref ykind, .ref ysalt, .ref ypace, .ref ymute, .ref ylate, .ref yfrom, .ref yto, .ref ygoal, .ref ynow, .ref ystatus, .ref ytape, .int 0, .int 0, .int 0, .int 0, .int 0, .int 0, .int 0, .int 0, .int 0, .int (-1), .ref yreach, .int (-1), .int 0, .int 0, .int 0, .int 0, .int 0, .ref ymet, .int 1, .ref ypast, .ref yisAt, .ref ywaysTo, .ref ywide, .ref ydiamondFrom, .ref ydiamondTo, .int 0, .int 0, .int 0, .int 0, .ref ynotedPort, .ref ynotedGoal, .ref ynotedHop, .ref ynotedAddress, .ref yfitting, .int 0, .ref yrowThen, .int 0, .int 0, .int 0, .ref yimageRow, .ref ypastThen, .ref ynotedPortThen, .ref ynotedGoalThen, .ref ynotedHopThen, .ref ynotedAddressThen, .ref ystatusThen])), (ynow, .inl (kI, 1019, .inl (upd (upd (fun _ => 0) 54 5) 54 p0)))] := hD
  refine lv_iload_n hx hb dX11_loss_41 rfl (lv_at hl 0 rfl) ?_
  have hP9 := hP.sub (ws' := []) [] rfl
  have hD9 := hD.sub (ws' := []) [] (by decide) rfl
  exact W.iret (v := 5) hx hb hr (fun t ht hW => ⟨⟨5, (), rfl, rfl, by rw [ht]; exact hP9, hD9⟩, hS.F ht⟩) hS.2.2 dX11_loss_42
def rm_k11_loss_lo : Room := { frames := 1, cells := 0, slots := 0, locals := 22 }
set_option maxHeartbeats 4000000 in
set_option maxRecDepth 100000 in
theorem k11_loss_lo (l : Launch) (dC : Nat → ClassId) (dI : Nat → Nat → Nat) (kB kI kJ kZ kC kS : ClassId) (sz : Nat) (m0 : Nat) (ywords : Nat) (ykinds : Nat) (ytold : Nat) (ykind : Nat) (ysalt : Nat) (ypace : Nat) (ymute : Nat) (ylate : Nat) (yfrom : Nat) (yto : Nat) (ygoal : Nat) (ynow : Nat) (ystatus : Nat) (ytape : Nat) (yreach : Nat) (ymet : Nat) (ypast : Nat) (yisAt : Nat) (ywaysTo : Nat) (ywide : Nat) (ydiamondFrom : Nat) (ydiamondTo : Nat) (ynotedPort : Nat) (ynotedGoal : Nat) (ynotedHop : Nat) (ynotedAddress : Nat) (yfitting : Nat) (yrowThen : Nat) (yimageRow : Nat) (ypastThen : Nat) (ynotedPortThen : Nat) (ynotedGoalThen : Nat) (ynotedHopThen : Nat) (ynotedAddressThen : Nat) (ystatusThen : Nat) (p0 : Int32) (hc0 : p0 < 1) : Met l yX11_loss wsX11_loss rm_k11_loss_lo (va_Pc [.ref m0, .int p0] (fun U => U.heap.size = sz ∧ va_P (dC, dI) vwCl [(m0, .inr (11, [.ref ywords, .ref ykinds, .int 0, .ref ytold, .ref ykind, .ref ysalt, .ref ypace, .ref ymute, .ref ylate, .ref yfrom, .ref yto, .ref ygoal, .ref ynow, .ref ystatus, .ref ytape, .int 0, .int 0, .int 0, .int 0, .int 0, .int 0, .int 0, .int 0, .int 0, .int (-1), .ref yreach, .int (-1), .int 0, .int 0, .int 0, .int 0, .int 0, .ref ymet, .int 0, .ref ypast, .ref yisAt, .ref ywaysTo, .ref ywide, .ref ydiamondFrom, .ref ydiamondTo, .int 0, .int 0, .int 0, .int 0, .ref ynotedPort, .ref ynotedGoal, .ref ynotedHop, .ref ynotedAddress, .ref yfitting, .int 0, .ref yrowThen, .int 0, .int 0, .int 0, .ref yimageRow, .ref ypastThen, .ref ynotedPortThen, .ref ynotedGoalThen, .ref ynotedHopThen, .ref ynotedAddressThen, .ref ystatusThen])), (ystatus, .inl (kI, 3, .inl (fun _ => 0)))] U.heap ∧ kE dC dI kB kI kJ kZ kC kS U ∧ va_D (fun _ => True) [(m0, .inr (11, [.ref ywords, .ref ykinds, .int 0, .ref ytold, .ref ykind, .ref ysalt, .ref ypace, .ref ymute, .ref ylate, .ref yfrom, .ref yto, .ref ygoal, .ref ynow, .ref ystatus, .ref ytape, .int 0, .int 0, .int 0, .int 0, .int 0, .int 0, .int 0, .int 0, .int 0, .int (-1), .ref yreach, .int (-1), .int 0, .int 0, .int 0, .int 0, .int 0, .ref ymet, .int 0, .ref ypast, .ref yisAt, .ref ywaysTo, .ref ywide, .ref ydiamondFrom, .ref ydiamondTo, .int 0, .int 0, .int 0, .int 0, .ref ynotedPort, .ref ynotedGoal, .ref ynotedHop, .ref ynotedAddress, .ref yfitting, .int 0, .ref yrowThen, .int 0, .int 0, .int 0, .ref yimageRow, .ref ypastThen, .ref ynotedPortThen, .ref ynotedGoalThen, .ref ynotedHopThen, .ref ynotedAddressThen, .ref ystatusThen])), (ystatus, .inl (kI, 3, .inl (fun _ => 0)))])) (va_Qi (fun (r : Int32) (_ : Unit) => r = -1) (fun _ t => va_P (dC, dI) vwCl [] t.heap ∧ va_D (va_A [(m0, .inr (11, [.ref ywords, .ref ykinds, .int 0, .ref ytold, .ref ykind, .ref ysalt, .ref ypace, .ref ymute, .ref ylate, .ref yfrom, .ref yto, .ref ygoal, .ref ynow, .ref ystatus, .ref ytape, .int 0, .int 0, .int 0, .int 0, .int 0, .int 0, .int 0, .int 0, .int 0, .int (-1), .ref yreach, .int (-1), .int 0, .int 0, .int 0, .int 0, .int 0, .ref ymet, .int 0, .ref ypast, .ref yisAt, .ref ywaysTo, .ref ywide, .ref ydiamondFrom, .ref ydiamondTo, .int 0, .int 0, .int 0, .int 0, .ref ynotedPort, .ref ynotedGoal, .ref ynotedHop, .ref ynotedAddress, .ref yfitting, .int 0, .ref yrowThen, .int 0, .int 0, .int 0, .ref yimageRow, .ref ypastThen, .ref ynotedPortThen, .ref ynotedGoalThen, .ref ynotedHopThen, .ref ynotedAddressThen, .ref ystatusThen])), (ystatus, .inl (kI, 3, .inl (fun _ => 0)))] sz) []) (va_A [(m0, .inr (11, [.ref ywords, .ref ykinds, .int 0, .ref ytold, .ref ykind, .ref ysalt, .ref ypace, .ref ymute, .ref ylate, .ref yfrom, .ref yto, .ref ygoal, .ref ynow, .ref ystatus, .ref ytape, .int 0, .int 0, .int 0, .int 0, .int 0, .int 0, .int 0, .int 0, .int 0, .int (-1), .ref yreach, .int (-1), .int 0, .int 0, .int 0, .int 0, .int 0, .ref ymet, .int 0, .ref ypast, .ref yisAt, .ref ywaysTo, .ref ywide, .ref ydiamondFrom, .ref ydiamondTo, .int 0, .int 0, .int 0, .int 0, .ref ynotedPort, .ref ynotedGoal, .ref ynotedHop, .ref ynotedAddress, .ref yfitting, .int 0, .ref yrowThen, .int 0, .int 0, .int 0, .ref yimageRow, .ref ypastThen, .ref ynotedPortThen, .ref ynotedGoalThen, .ref ynotedHopThen, .ref ynotedAddressThen, .ref ystatusThen])), (ystatus, .inl (kI, 3, .inl (fun _ => 0)))] sz)) 0 0 (va_A [(m0, .inr (11, [.ref ywords, .ref ykinds, .int 0, .ref ytold, .ref ykind, .ref ysalt, .ref ypace, .ref ymute, .ref ylate, .ref yfrom, .ref yto, .ref ygoal, .ref ynow, .ref ystatus, .ref ytape, .int 0, .int 0, .int 0, .int 0, .int 0, .int 0, .int 0, .int 0, .int 0, .int (-1), .ref yreach, .int (-1), .int 0, .int 0, .int 0, .int 0, .int 0, .ref ymet, .int 0, .ref ypast, .ref yisAt, .ref ywaysTo, .ref ywide, .ref ydiamondFrom, .ref ydiamondTo, .int 0, .int 0, .int 0, .int 0, .ref ynotedPort, .ref ynotedGoal, .ref ynotedHop, .ref ynotedAddress, .ref yfitting, .int 0, .ref yrowThen, .int 0, .int 0, .int 0, .ref yimageRow, .ref ypastThen, .ref ynotedPortThen, .ref ynotedGoalThen, .ref ynotedHopThen, .ref ynotedAddressThen, .ref ystatusThen])), (ystatus, .inl (kI, 3, .inl (fun _ => 0)))] sz) := by
  refine Met.ofW (cc := cX11_loss) (maxL := 3) (ret := (some .int)) (by decide) rfl ?_
  intro p e s m args0 below meth c s₁ B hml hv
  obtain ⟨hargs, hsz, hP, hE, hD0⟩ := hv
  have hx := B.exec
  have hb := B.bytes
  have hr := B.returns
  have hts := atoms_spec (ws := wsX11_loss) B.pre
  have hown : s.vm.findClass RX11 = some m.cls := findClass_of_methodNamed B.named
  have hlocks := B.notSynchronized
  have hK := hE.1
  have hin11 : ∀ w ∈ wsX110, w ∈ wsX11_loss := fun _ h9 => List.mem_cons_of_mem _ (List.mem_append_right _ h9)
  subst hsz
  have hD := hD0.self (sz := s.heap.size)
  generalize hAe : va_A [(m0, .inr (11, [.ref ywords, .ref ykinds, .int 0, .ref ytold, .ref ykind, .ref ysalt, .ref ypace, .ref ymute, .ref ylate, .ref yfrom, .ref yto, .ref ygoal, .ref ynow, .ref ystatus, .ref ytape, .int 0, .int 0, .int 0, .int 0, .int 0, .int 0, .int 0, .int 0, .int 0, .int (-1), .ref yreach, .int (-1), .int 0, .int 0, .int 0, .int 0, .int 0, .ref ymet, .int 0, .ref ypast, .ref yisAt, .ref ywaysTo, .ref ywide, .ref ydiamondFrom, .ref ydiamondTo, .int 0, .int 0, .int 0, .int 0, .ref ynotedPort, .ref ynotedGoal, .ref ynotedHop, .ref ynotedAddress, .ref yfitting, .int 0, .ref yrowThen, .int 0, .int 0, .int 0, .ref yimageRow, .ref ypastThen, .ref ynotedPortThen, .ref ynotedGoalThen, .ref ynotedHopThen, .ref ynotedAddressThen, .ref ystatusThen])), (ystatus, .inl (kI, 3, .inl (fun _ => 0)))] s.heap.size = A at hD ⊢
  have hA : ∀ q : Nat, s.heap.size ≤ q → A q := fun q h => by rw [← hAe]; exact Or.inr h
  have hS : va_S A s.heap s.heap [] := va_S.rf
  have hP : va_P (dC, dI) vwCl [(m0, .inr (11, [.ref ywords, .ref ykinds, .int 0, .ref ytold, .ref ykind, .ref ysalt, .ref ypace, .ref ymute, .ref ylate, .ref yfrom, .ref yto, .ref ygoal, .ref ynow, .ref ystatus, .ref ytape, .int 0, .int 0, .int 0, .int 0, .int 0, .int 0, .int 0, .int 0, .int 0, .int (-1), .ref yreach, .int (-1), .int 0, .int 0, .int 0, .int 0, .int 0, .ref ymet, .int 0, .ref ypast, .ref yisAt, .ref ywaysTo, .ref ywide, .ref ydiamondFrom, .ref ydiamondTo, .int 0, .int 0, .int 0, .int 0, .ref ynotedPort, .ref ynotedGoal, .ref ynotedHop, .ref ynotedAddress, .ref yfitting, .int 0, .ref yrowThen, .int 0, .int 0, .int 0, .ref yimageRow, .ref ypastThen, .ref ynotedPortThen, .ref ynotedGoalThen, .ref ynotedHopThen, .ref ynotedAddressThen, .ref ystatusThen])), (ystatus, .inl (kI, 3, .inl (fun _ => 0)))] s.heap := hP
  have hl := lv_entry ([.ref m0, .int p0]) (n := 3) (Nat.le_of_ble_eq_true rfl)
  have hla : entryFrame m args0 3 = entryFrame m ([.ref m0, .int p0] : List Value).toArray 3 := by rw [hargs]
  rw [hla, lg_entry_eq]
  generalize (lg_sl ([.ref m0, .int p0]) ++ List.replicate (3 - (lg_sl ([.ref m0, .int p0])).length) Slot.unset).toArray = ls at hl ⊢
  have hl : lv_has ls 3 [(0, .ref m0), (1, .int p0)] := hl
  refine lv_aload_n hx hb dX11_loss_0 rfl (lv_at hl 0 rfl) ?_
  refine lv_iconst (v := 0) hx hb dX11_loss_1 (by decide) ?_
  refine va_put (D := (dC, dI)) (ci := 11) (v := .int 0) (ty := .int) (C := RX11) (T := TX11) (N := 61) hx hb hts hin11 tyX11 tyX11_ok nmX11 hown hK hP hD hS 0 rfl rfl 2 (by decide) (hts (.fieldLink RX11 142 "PathProberModel" "code" "I") (List.mem_of_getElem? (i := 1) (by decide +kernel))) (fun _ h9 => h9) rfl (by decide +kernel) rfl rfl (Nat.le_of_ble_eq_true rfl) dX11_loss_2 (fun H locs hP hD hS => ?_)
  have hP : va_P (dC, dI) vwCl [(m0, .inr (11, [.ref ywords, .ref ykinds, .int 0, .ref ytold, .ref ykind, .ref ysalt, .ref ypace, .ref ymute, .ref ylate, .ref yfrom, .ref yto, .ref ygoal, .ref ynow, .ref ystatus, .ref ytape, .int 0, .int 0, .int 0, .int 0, .int 0, .int 0, .int 0, .int 0, .int 0, .int (-1), .ref yreach, .int (-1), .int 0, .int 0, .int 0, .int 0, .int 0, .ref ymet, .int 0, .ref ypast, .ref yisAt, .ref ywaysTo, .ref ywide, .ref ydiamondFrom, .ref ydiamondTo, .int 0, .int 0, .int 0, .int 0, .ref ynotedPort, .ref ynotedGoal, .ref ynotedHop, .ref ynotedAddress, .ref yfitting, .int 0, .ref yrowThen, .int 0, .int 0, .int 0, .ref yimageRow, .ref ypastThen, .ref ynotedPortThen, .ref ynotedGoalThen, .ref ynotedHopThen, .ref ynotedAddressThen, .ref ystatusThen])), (ystatus, .inl (kI, 3, .inl (fun _ => 0)))] H := hP
  have hD : va_D A [(m0, .inr (11, [.ref ywords, .ref ykinds, .int 0, .ref ytold, .ref ykind, .ref ysalt, .ref ypace, .ref ymute, .ref ylate, .ref yfrom, .ref yto, .ref ygoal, .ref ynow, .ref ystatus, .ref ytape, .int 0, .int 0, .int 0, .int 0, .int 0, .int 0, .int 0, .int 0, .int 0, .int (-1), .ref yreach, .int (-1), .int 0, .int 0, .int 0, .int 0, .int 0, .ref ymet, .int 0, .ref ypast, .ref yisAt, .ref ywaysTo, .ref ywide, .ref ydiamondFrom, .ref ydiamondTo, .int 0, .int 0, .int 0, .int 0, .ref ynotedPort, .ref ynotedGoal, .ref ynotedHop, .ref ynotedAddress, .ref yfitting, .int 0, .ref yrowThen, .int 0, .int 0, .int 0, .ref yimageRow, .ref ypastThen, .ref ynotedPortThen, .ref ynotedGoalThen, .ref ynotedHopThen, .ref ynotedAddressThen, .ref ystatusThen])), (ystatus, .inl (kI, 3, .inl (fun _ => 0)))] := hD
  refine lv_iload_n hx hb dX11_loss_5 rfl (lv_at hl 1 rfl) ?_
  refine lv_iconst (v := 1) hx hb dX11_loss_6 (by decide) ?_
  refine lv_bipush (v := 50) hx hb dX11_loss_7 (by decide) ?_
  have hPc := hP.sub (ws' := []) [] rfl
  have hDc := hD.sub (ws' := []) [] (by decide) rfl
  have hFc := va_free (wc := []) hD hS hA [] rfl
  refine va_calli (va_runS (As := [.int p0, .int 1, .int 50]) (rest := []) ⟨hx, hb, hml, hown, hts⟩ (k11_isIn_lo l dC dI kB kI kJ kZ kC kS H.size p0 1 50 (by have hhc0 := hc0; simp only [Int32.lt_iff_toInt_lt, Int32.le_iff_toInt_le, ← Int32.toInt_inj, (by decide : (0 : Int32).toInt = 0), (by decide : (1 : Int32).toInt = 1)] at hhc0 ⊢; omega)) (va_cwS 3 hts gX11_loss_X11_isIn rfl rfl rfl (by decide +kernel) ⟨Nat.le_of_ble_eq_true rfl, Nat.le_of_ble_eq_true rfl⟩) ⟨fun a U g mk q => by obtain ⟨q0, q1, qP, qE, qD⟩ := q; exact ⟨q0, q1, qP, kE_call qE, qD⟩, fun U hU hW => ⟨rfl, by rw [hU], by rw [hU]; exact hPc, kE_warm hW hE, hDc.weaken (fun _ _ _ _ => trivial)⟩⟩ rfl rfl hl.1 rfl (lv_room (Nat.le_of_ble_eq_true rfl)) dX11_loss_9 ⟨Nat.le_of_ble_eq_true rfl, Nat.le_of_ble_eq_true rfl⟩) hS (fun q _ h => hFc q h) hFc (fun r1 u t H1 locs ht hvm w2 hB hz1 hk1 hS => ?_)
  obtain ⟨hP1, hD1⟩ := hB
  rw [ht] at hP1
  try dsimp only at w2
  obtain ⟨hP, hD⟩ := va_join (wr := [(m0, .inr (11, [.ref ywords, .ref ykinds, .int 0, .ref ytold, .ref ykind, .ref ysalt, .ref ypace, .ref ymute, .ref ylate, .ref yfrom, .ref yto, .ref ygoal, .ref ynow, .ref ystatus, .ref ytape, .int 0, .int 0, .int 0, .int 0, .int 0, .int 0, .int 0, .int 0, .int 0, .int (-1), .ref yreach, .int (-1), .int 0, .int 0, .int 0, .int 0, .int 0, .ref ymet, .int 0, .ref ypast, .ref yisAt, .ref ywaysTo, .ref ywide, .ref ydiamondFrom, .ref ydiamondTo, .int 0, .int 0, .int 0, .int 0, .ref ynotedPort, .ref ynotedGoal, .ref ynotedHop, .ref ynotedAddress, .ref yfitting, .int 0, .ref yrowThen, .int 0, .int 0, .int 0, .ref yimageRow, .ref ypastThen, .ref ynotedPortThen, .ref ynotedGoalThen, .ref ynotedHopThen, .ref ynotedAddressThen, .ref ystatusThen])), (ystatus, .inl (kI, 3, .inl (fun _ => 0)))]) (w1 := []) hP hD [] [0, 1] rfl rfl (by decide) (by decide) hk1 hFc hP1 hD1
  generalize H1 = H at hP hS ⊢
  have hP : va_P (dC, dI) vwCl [(m0, .inr (11, [.ref ywords, .ref ykinds, .int 0, .ref ytold, .ref ykind, .ref ysalt, .ref ypace, .ref ymute, .ref ylate, .ref yfrom, .ref yto, .ref ygoal, .ref ynow, .ref ystatus, .ref ytape, .int 0, .int 0, .int 0, .int 0, .int 0, .int 0, .int 0, .int 0, .int 0, .int (-1), .ref yreach, .int (-1), .int 0, .int 0, .int 0, .int 0, .int 0, .ref ymet, .int 0, .ref ypast, .ref yisAt, .ref ywaysTo, .ref ywide, .ref ydiamondFrom, .ref ydiamondTo, .int 0, .int 0, .int 0, .int 0, .ref ynotedPort, .ref ynotedGoal, .ref ynotedHop, .ref ynotedAddress, .ref yfitting, .int 0, .ref yrowThen, .int 0, .int 0, .int 0, .ref yimageRow, .ref ypastThen, .ref ynotedPortThen, .ref ynotedGoalThen, .ref ynotedHopThen, .ref ynotedAddressThen, .ref ystatusThen])), (ystatus, .inl (kI, 3, .inl (fun _ => 0)))] H := hP
  have hD : va_D A [(m0, .inr (11, [.ref ywords, .ref ykinds, .int 0, .ref ytold, .ref ykind, .ref ysalt, .ref ypace, .ref ymute, .ref ylate, .ref yfrom, .ref yto, .ref ygoal, .ref ynow, .ref ystatus, .ref ytape, .int 0, .int 0, .int 0, .int 0, .int 0, .int 0, .int 0, .int 0, .int 0, .int (-1), .ref yreach, .int (-1), .int 0, .int 0, .int 0, .int 0, .int 0, .ref ymet, .int 0, .ref ypast, .ref yisAt, .ref ywaysTo, .ref ywide, .ref ydiamondFrom, .ref ydiamondTo, .int 0, .int 0, .int 0, .int 0, .ref ynotedPort, .ref ynotedGoal, .ref ynotedHop, .ref ynotedAddress, .ref yfitting, .int 0, .ref yrowThen, .int 0, .int 0, .int 0, .ref yimageRow, .ref ypastThen, .ref ynotedPortThen, .ref ynotedGoalThen, .ref ynotedHopThen, .ref ynotedAddressThen, .ref ystatusThen])), (ystatus, .inl (kI, 3, .inl (fun _ => 0)))] := hD
  refine W.widen (k := 0) (n := 0) (Nat.le_of_ble_eq_true rfl) (Nat.le_of_ble_eq_true rfl) ?_
  subst w2
  refine lv_if_ne (tgt := 21) hx hb dX11_loss_12 (by decide) (fun c9 => absurd (by decide) c9) (fun _ => ?_)
  refine lv_aload_n hx hb dX11_loss_15 rfl (lv_at hl 0 rfl) ?_
  refine lv_iconst (v := 1) hx hb dX11_loss_16 (by decide) ?_
  have hPc := hP.sub (ws' := [(m0, .inr (11, [.ref ywords, .ref ykinds, .int 0, .ref ytold, .ref ykind, .ref ysalt, .ref ypace, .ref ymute, .ref ylate, .ref yfrom, .ref yto, .ref ygoal, .ref ynow, .ref ystatus, .ref ytape, .int 0, .int 0, .int 0, .int 0, .int 0, .int 0, .int 0, .int 0, .int 0, .int (-1), .ref yreach, .int (-1), .int 0, .int 0, .int 0, .int 0, .int 0, .ref ymet, .int 0, .ref ypast, .ref yisAt, .ref ywaysTo, .ref ywide, .ref ydiamondFrom, .ref ydiamondTo, .int 0, .int 0, .int 0, .int 0, .ref ynotedPort, .ref ynotedGoal, .ref ynotedHop, .ref ynotedAddress, .ref yfitting, .int 0, .ref yrowThen, .int 0, .int 0, .int 0, .ref yimageRow, .ref ypastThen, .ref ynotedPortThen, .ref ynotedGoalThen, .ref ynotedHopThen, .ref ynotedAddressThen, .ref ystatusThen])), (ystatus, .inl (kI, 3, .inl (fun _ => 0)))]) [0, 1] rfl
  have hDc := hD.sub (ws' := [(m0, .inr (11, [.ref ywords, .ref ykinds, .int 0, .ref ytold, .ref ykind, .ref ysalt, .ref ypace, .ref ymute, .ref ylate, .ref yfrom, .ref yto, .ref ygoal, .ref ynow, .ref ystatus, .ref ytape, .int 0, .int 0, .int 0, .int 0, .int 0, .int 0, .int 0, .int 0, .int 0, .int (-1), .ref yreach, .int (-1), .int 0, .int 0, .int 0, .int 0, .int 0, .ref ymet, .int 0, .ref ypast, .ref yisAt, .ref ywaysTo, .ref ywide, .ref ydiamondFrom, .ref ydiamondTo, .int 0, .int 0, .int 0, .int 0, .ref ynotedPort, .ref ynotedGoal, .ref ynotedHop, .ref ynotedAddress, .ref yfitting, .int 0, .ref yrowThen, .int 0, .int 0, .int 0, .ref yimageRow, .ref ypastThen, .ref ynotedPortThen, .ref ynotedGoalThen, .ref ynotedHopThen, .ref ynotedAddressThen, .ref ystatusThen])), (ystatus, .inl (kI, 3, .inl (fun _ => 0)))]) [0, 1] (by decide) rfl
  have hFc := va_free (wc := [(m0, .inr (11, [.ref ywords, .ref ykinds, .int 0, .ref ytold, .ref ykind, .ref ysalt, .ref ypace, .ref ymute, .ref ylate, .ref yfrom, .ref yto, .ref ygoal, .ref ynow, .ref ystatus, .ref ytape, .int 0, .int 0, .int 0, .int 0, .int 0, .int 0, .int 0, .int 0, .int 0, .int (-1), .ref yreach, .int (-1), .int 0, .int 0, .int 0, .int 0, .int 0, .ref ymet, .int 0, .ref ypast, .ref yisAt, .ref ywaysTo, .ref ywide, .ref ydiamondFrom, .ref ydiamondTo, .int 0, .int 0, .int 0, .int 0, .ref ynotedPort, .ref ynotedGoal, .ref ynotedHop, .ref ynotedAddress, .ref yfitting, .int 0, .ref yrowThen, .int 0, .int 0, .int 0, .ref yimageRow, .ref ypastThen, .ref ynotedPortThen, .ref ynotedGoalThen, .ref ynotedHopThen, .ref ynotedAddressThen, .ref ystatusThen])), (ystatus, .inl (kI, 3, .inl (fun _ => 0)))]) hD hS hA [0, 1] rfl
  refine va_calli (va_runV (As := [.int 1]) (rest := []) ⟨hx, hb, hml, hown, hts⟩ (k11_refuse1 l dC dI kB kI kJ kZ kC kS H.size m0 ywords ykinds ytold ykind ysalt ypace ymute ylate yfrom yto ygoal ynow ystatus ytape yreach ymet ypast yisAt ywaysTo ywide ydiamondFrom ydiamondTo ynotedPort ynotedGoal ynotedHop ynotedAddress yfitting yrowThen yimageRow ypastThen ynotedPortThen ynotedGoalThen ynotedHopThen ynotedAddressThen ystatusThen) (cwV 1 hts gX11_loss_X11_refuse rfl rfl rfl (by decide +kernel) ⟨Nat.le_of_ble_eq_true rfl, Nat.le_of_ble_eq_true rfl⟩) ⟨fun a U g mk q => by obtain ⟨q0, q1, qP, qE, qD⟩ := q; exact ⟨q0, q1, qP, kE_call qE, qD⟩, va_recv hK hP (ci := 11) (q0 := 0) rfl rfl, fun U hU hW => ⟨rfl, by rw [hU], by rw [hU]; exact hPc, kE_warm hW hE, hDc.weaken (fun _ _ _ _ => trivial)⟩⟩ rfl rfl hl.1 rfl (lv_room (Nat.le_of_ble_eq_true rfl)) dX11_loss_17 ⟨Nat.le_of_ble_eq_true rfl, Nat.le_of_ble_eq_true rfl⟩) hS (fun q _ h => hFc q h) hFc (fun r3 u t H1 locs ht hvm w4 hB hz1 hk1 hS => ?_)
  obtain ⟨hP1, hD1⟩ := hB
  rw [ht] at hP1
  try dsimp only at w4
  obtain ⟨hP, hD⟩ := va_join (wr := []) (w1 := [(m0, .inr (11, [.ref ywords, .ref ykinds, .int 0, .ref ytold, .ref ykind, .ref ysalt, .ref ypace, .ref ymute, .ref ylate, .ref yfrom, .ref yto, .ref ygoal, .ref ynow, .ref ystatus, .ref ytape, .int 0, .int 0, .int 0, .int 0, .int 0, .int 0, .int 0, .int 0, .int 0, .int (-1), .ref yreach, .int (-1), .int 0, .int 0, .int 0, .int 0, .int 0, .ref ymet, .int 0, .ref ypast, .ref yisAt, .ref ywaysTo, .ref ywide, .ref ydiamondFrom, .ref ydiamondTo, .int 0, .int 0, .int 0, .int 0, .ref ynotedPort, .ref ynotedGoal, .ref ynotedHop, .ref ynotedAddress, .ref yfitting, .int 0, .ref yrowThen, .int 0, .int 0, .int 0, .ref yimageRow, .ref ypastThen, .ref ynotedPortThen, .ref ynotedGoalThen, .ref ynotedHopThen, .ref ynotedAddressThen, .ref ystatusThen]))]) hP hD [0, 1] [] rfl rfl (by decide) (by decide) hk1 hFc hP1 hD1
  generalize H1 = H at hP hS ⊢
  have hP : va_P (dC, dI) vwCl [(m0, .inr (11, [.ref ywords, .ref ykinds, .int 0, .ref ytold, .ref ykind, .ref ysalt, .ref ypace, .ref ymute, .ref ylate, .ref yfrom, .ref yto, .ref ygoal, .ref ynow, .ref ystatus, .ref ytape, .int 0, .int 0, .int 0, .int 0, .int 0, .int 0, .int 0, .int 0, .int 0, .int (-1), .ref yreach, .int (-1), .int 0, .int 0, .int 0, .int 0, .int 0, .ref ymet, .int 0, .ref ypast, .ref yisAt, .ref ywaysTo, .ref ywide, .ref ydiamondFrom, .ref ydiamondTo, .int 0, .int 0, .int 0, .int 0, .ref ynotedPort, .ref ynotedGoal, .ref ynotedHop, .ref ynotedAddress, .ref yfitting, .int 0, .ref yrowThen, .int 0, .int 0, .int 0, .ref yimageRow, .ref ypastThen, .ref ynotedPortThen, .ref ynotedGoalThen, .ref ynotedHopThen, .ref ynotedAddressThen, .ref ystatusThen]))] H := hP
  have hD : va_D A [(m0, .inr (11, [.ref ywords, .ref ykinds, .int 0, .ref ytold, .ref ykind, .ref ysalt, .ref ypace, .ref ymute, .ref ylate, .ref yfrom, .ref yto, .ref ygoal, .ref ynow, .ref ystatus, .ref ytape, .int 0, .int 0, .int 0, .int 0, .int 0, .int 0, .int 0, .int 0, .int 0, .int (-1), .ref yreach, .int (-1), .int 0, .int 0, .int 0, .int 0, .int 0, .ref ymet, .int 0, .ref ypast, .ref yisAt, .ref ywaysTo, .ref ywide, .ref ydiamondFrom, .ref ydiamondTo, .int 0, .int 0, .int 0, .int 0, .ref ynotedPort, .ref ynotedGoal, .ref ynotedHop, .ref ynotedAddress, .ref yfitting, .int 0, .ref yrowThen, .int 0, .int 0, .int 0, .ref yimageRow, .ref ypastThen, .ref ynotedPortThen, .ref ynotedGoalThen, .ref ynotedHopThen, .ref ynotedAddressThen, .ref ystatusThen]))] := hD
  refine W.widen (k := 0) (n := 0) (Nat.le_of_ble_eq_true rfl) (Nat.le_of_ble_eq_true rfl) ?_
  subst w4
  have hP9 := hP.sub (ws' := []) [] rfl
  have hD9 := hD.sub (ws' := []) [] (by decide) rfl
  exact W.iret (v := (-1)) hx hb hr (fun t ht hW => ⟨⟨(-1), (), rfl, rfl, by rw [ht]; exact hP9, hD9⟩, hS.F ht⟩) hS.2.2 dX11_loss_20
def rm_k11_loss_hi : Room := { frames := 1, cells := 0, slots := 0, locals := 22 }
set_option maxHeartbeats 4000000 in
set_option maxRecDepth 100000 in
theorem k11_loss_hi (l : Launch) (dC : Nat → ClassId) (dI : Nat → Nat → Nat) (kB kI kJ kZ kC kS : ClassId) (sz : Nat) (m0 : Nat) (ywords : Nat) (ykinds : Nat) (ytold : Nat) (ykind : Nat) (ysalt : Nat) (ypace : Nat) (ymute : Nat) (ylate : Nat) (yfrom : Nat) (yto : Nat) (ygoal : Nat) (ynow : Nat) (ystatus : Nat) (ytape : Nat) (yreach : Nat) (ymet : Nat) (ypast : Nat) (yisAt : Nat) (ywaysTo : Nat) (ywide : Nat) (ydiamondFrom : Nat) (ydiamondTo : Nat) (ynotedPort : Nat) (ynotedGoal : Nat) (ynotedHop : Nat) (ynotedAddress : Nat) (yfitting : Nat) (yrowThen : Nat) (yimageRow : Nat) (ypastThen : Nat) (ynotedPortThen : Nat) (ynotedGoalThen : Nat) (ynotedHopThen : Nat) (ynotedAddressThen : Nat) (ystatusThen : Nat) (p0 : Int32) (hc0 : 50 < p0) : Met l yX11_loss wsX11_loss rm_k11_loss_hi (va_Pc [.ref m0, .int p0] (fun U => U.heap.size = sz ∧ va_P (dC, dI) vwCl [(m0, .inr (11, [.ref ywords, .ref ykinds, .int 0, .ref ytold, .ref ykind, .ref ysalt, .ref ypace, .ref ymute, .ref ylate, .ref yfrom, .ref yto, .ref ygoal, .ref ynow, .ref ystatus, .ref ytape, .int 0, .int 0, .int 0, .int 0, .int 0, .int 0, .int 0, .int 0, .int 0, .int (-1), .ref yreach, .int (-1), .int 0, .int 0, .int 0, .int 0, .int 0, .ref ymet, .int 0, .ref ypast, .ref yisAt, .ref ywaysTo, .ref ywide, .ref ydiamondFrom, .ref ydiamondTo, .int 0, .int 0, .int 0, .int 0, .ref ynotedPort, .ref ynotedGoal, .ref ynotedHop, .ref ynotedAddress, .ref yfitting, .int 0, .ref yrowThen, .int 0, .int 0, .int 0, .ref yimageRow, .ref ypastThen, .ref ynotedPortThen, .ref ynotedGoalThen, .ref ynotedHopThen, .ref ynotedAddressThen, .ref ystatusThen])), (ystatus, .inl (kI, 3, .inl (fun _ => 0)))] U.heap ∧ kE dC dI kB kI kJ kZ kC kS U ∧ va_D (fun _ => True) [(m0, .inr (11, [.ref ywords, .ref ykinds, .int 0, .ref ytold, .ref ykind, .ref ysalt, .ref ypace, .ref ymute, .ref ylate, .ref yfrom, .ref yto, .ref ygoal, .ref ynow, .ref ystatus, .ref ytape, .int 0, .int 0, .int 0, .int 0, .int 0, .int 0, .int 0, .int 0, .int 0, .int (-1), .ref yreach, .int (-1), .int 0, .int 0, .int 0, .int 0, .int 0, .ref ymet, .int 0, .ref ypast, .ref yisAt, .ref ywaysTo, .ref ywide, .ref ydiamondFrom, .ref ydiamondTo, .int 0, .int 0, .int 0, .int 0, .ref ynotedPort, .ref ynotedGoal, .ref ynotedHop, .ref ynotedAddress, .ref yfitting, .int 0, .ref yrowThen, .int 0, .int 0, .int 0, .ref yimageRow, .ref ypastThen, .ref ynotedPortThen, .ref ynotedGoalThen, .ref ynotedHopThen, .ref ynotedAddressThen, .ref ystatusThen])), (ystatus, .inl (kI, 3, .inl (fun _ => 0)))])) (va_Qi (fun (r : Int32) (_ : Unit) => r = -1) (fun _ t => va_P (dC, dI) vwCl [] t.heap ∧ va_D (va_A [(m0, .inr (11, [.ref ywords, .ref ykinds, .int 0, .ref ytold, .ref ykind, .ref ysalt, .ref ypace, .ref ymute, .ref ylate, .ref yfrom, .ref yto, .ref ygoal, .ref ynow, .ref ystatus, .ref ytape, .int 0, .int 0, .int 0, .int 0, .int 0, .int 0, .int 0, .int 0, .int 0, .int (-1), .ref yreach, .int (-1), .int 0, .int 0, .int 0, .int 0, .int 0, .ref ymet, .int 0, .ref ypast, .ref yisAt, .ref ywaysTo, .ref ywide, .ref ydiamondFrom, .ref ydiamondTo, .int 0, .int 0, .int 0, .int 0, .ref ynotedPort, .ref ynotedGoal, .ref ynotedHop, .ref ynotedAddress, .ref yfitting, .int 0, .ref yrowThen, .int 0, .int 0, .int 0, .ref yimageRow, .ref ypastThen, .ref ynotedPortThen, .ref ynotedGoalThen, .ref ynotedHopThen, .ref ynotedAddressThen, .ref ystatusThen])), (ystatus, .inl (kI, 3, .inl (fun _ => 0)))] sz) []) (va_A [(m0, .inr (11, [.ref ywords, .ref ykinds, .int 0, .ref ytold, .ref ykind, .ref ysalt, .ref ypace, .ref ymute, .ref ylate, .ref yfrom, .ref yto, .ref ygoal, .ref ynow, .ref ystatus, .ref ytape, .int 0, .int 0, .int 0, .int 0, .int 0, .int 0, .int 0, .int 0, .int 0, .int (-1), .ref yreach, .int (-1), .int 0, .int 0, .int 0, .int 0, .int 0, .ref ymet, .int 0, .ref ypast, .ref yisAt, .ref ywaysTo, .ref ywide, .ref ydiamondFrom, .ref ydiamondTo, .int 0, .int 0, .int 0, .int 0, .ref ynotedPort, .ref ynotedGoal, .ref ynotedHop, .ref ynotedAddress, .ref yfitting, .int 0, .ref yrowThen, .int 0, .int 0, .int 0, .ref yimageRow, .ref ypastThen, .ref ynotedPortThen, .ref ynotedGoalThen, .ref ynotedHopThen, .ref ynotedAddressThen, .ref ystatusThen])), (ystatus, .inl (kI, 3, .inl (fun _ => 0)))] sz)) 0 0 (va_A [(m0, .inr (11, [.ref ywords, .ref ykinds, .int 0, .ref ytold, .ref ykind, .ref ysalt, .ref ypace, .ref ymute, .ref ylate, .ref yfrom, .ref yto, .ref ygoal, .ref ynow, .ref ystatus, .ref ytape, .int 0, .int 0, .int 0, .int 0, .int 0, .int 0, .int 0, .int 0, .int 0, .int (-1), .ref yreach, .int (-1), .int 0, .int 0, .int 0, .int 0, .int 0, .ref ymet, .int 0, .ref ypast, .ref yisAt, .ref ywaysTo, .ref ywide, .ref ydiamondFrom, .ref ydiamondTo, .int 0, .int 0, .int 0, .int 0, .ref ynotedPort, .ref ynotedGoal, .ref ynotedHop, .ref ynotedAddress, .ref yfitting, .int 0, .ref yrowThen, .int 0, .int 0, .int 0, .ref yimageRow, .ref ypastThen, .ref ynotedPortThen, .ref ynotedGoalThen, .ref ynotedHopThen, .ref ynotedAddressThen, .ref ystatusThen])), (ystatus, .inl (kI, 3, .inl (fun _ => 0)))] sz) := by
  refine Met.ofW (cc := cX11_loss) (maxL := 3) (ret := (some .int)) (by decide) rfl ?_
  intro p e s m args0 below meth c s₁ B hml hv
  obtain ⟨hargs, hsz, hP, hE, hD0⟩ := hv
  have hx := B.exec
  have hb := B.bytes
  have hr := B.returns
  have hts := atoms_spec (ws := wsX11_loss) B.pre
  have hown : s.vm.findClass RX11 = some m.cls := findClass_of_methodNamed B.named
  have hlocks := B.notSynchronized
  have hK := hE.1
  have hin11 : ∀ w ∈ wsX110, w ∈ wsX11_loss := fun _ h9 => List.mem_cons_of_mem _ (List.mem_append_right _ h9)
  subst hsz
  have hD := hD0.self (sz := s.heap.size)
  generalize hAe : va_A [(m0, .inr (11, [.ref ywords, .ref ykinds, .int 0, .ref ytold, .ref ykind, .ref ysalt, .ref ypace, .ref ymute, .ref ylate, .ref yfrom, .ref yto, .ref ygoal, .ref ynow, .ref ystatus, .ref ytape, .int 0, .int 0, .int 0, .int 0, .int 0, .int 0, .int 0, .int 0, .int 0, .int (-1), .ref yreach, .int (-1), .int 0, .int 0, .int 0, .int 0, .int 0, .ref ymet, .int 0, .ref ypast, .ref yisAt, .ref ywaysTo, .ref ywide, .ref ydiamondFrom, .ref ydiamondTo, .int 0, .int 0, .int 0, .int 0, .ref ynotedPort, .ref ynotedGoal, .ref ynotedHop, .ref ynotedAddress, .ref yfitting, .int 0, .ref yrowThen, .int 0, .int 0, .int 0, .ref yimageRow, .ref ypastThen, .ref ynotedPortThen, .ref ynotedGoalThen, .ref ynotedHopThen, .ref ynotedAddressThen, .ref ystatusThen])), (ystatus, .inl (kI, 3, .inl (fun _ => 0)))] s.heap.size = A at hD ⊢
  have hA : ∀ q : Nat, s.heap.size ≤ q → A q := fun q h => by rw [← hAe]; exact Or.inr h
  have hS : va_S A s.heap s.heap [] := va_S.rf
  have hP : va_P (dC, dI) vwCl [(m0, .inr (11, [.ref ywords, .ref ykinds, .int 0, .ref ytold, .ref ykind, .ref ysalt, .ref ypace, .ref ymute, .ref ylate, .ref yfrom, .ref yto, .ref ygoal, .ref ynow, .ref ystatus, .ref ytape, .int 0, .int 0, .int 0, .int 0, .int 0, .int 0, .int 0, .int 0, .int 0, .int (-1), .ref yreach, .int (-1), .int 0, .int 0, .int 0, .int 0, .int 0, .ref ymet, .int 0, .ref ypast, .ref yisAt, .ref ywaysTo, .ref ywide, .ref ydiamondFrom, .ref ydiamondTo, .int 0, .int 0, .int 0, .int 0, .ref ynotedPort, .ref ynotedGoal, .ref ynotedHop, .ref ynotedAddress, .ref yfitting, .int 0, .ref yrowThen, .int 0, .int 0, .int 0, .ref yimageRow, .ref ypastThen, .ref ynotedPortThen, .ref ynotedGoalThen, .ref ynotedHopThen, .ref ynotedAddressThen, .ref ystatusThen])), (ystatus, .inl (kI, 3, .inl (fun _ => 0)))] s.heap := hP
  have hl := lv_entry ([.ref m0, .int p0]) (n := 3) (Nat.le_of_ble_eq_true rfl)
  have hla : entryFrame m args0 3 = entryFrame m ([.ref m0, .int p0] : List Value).toArray 3 := by rw [hargs]
  rw [hla, lg_entry_eq]
  generalize (lg_sl ([.ref m0, .int p0]) ++ List.replicate (3 - (lg_sl ([.ref m0, .int p0])).length) Slot.unset).toArray = ls at hl ⊢
  have hl : lv_has ls 3 [(0, .ref m0), (1, .int p0)] := hl
  refine lv_aload_n hx hb dX11_loss_0 rfl (lv_at hl 0 rfl) ?_
  refine lv_iconst (v := 0) hx hb dX11_loss_1 (by decide) ?_
  refine va_put (D := (dC, dI)) (ci := 11) (v := .int 0) (ty := .int) (C := RX11) (T := TX11) (N := 61) hx hb hts hin11 tyX11 tyX11_ok nmX11 hown hK hP hD hS 0 rfl rfl 2 (by decide) (hts (.fieldLink RX11 142 "PathProberModel" "code" "I") (List.mem_of_getElem? (i := 1) (by decide +kernel))) (fun _ h9 => h9) rfl (by decide +kernel) rfl rfl (Nat.le_of_ble_eq_true rfl) dX11_loss_2 (fun H locs hP hD hS => ?_)
  have hP : va_P (dC, dI) vwCl [(m0, .inr (11, [.ref ywords, .ref ykinds, .int 0, .ref ytold, .ref ykind, .ref ysalt, .ref ypace, .ref ymute, .ref ylate, .ref yfrom, .ref yto, .ref ygoal, .ref ynow, .ref ystatus, .ref ytape, .int 0, .int 0, .int 0, .int 0, .int 0, .int 0, .int 0, .int 0, .int 0, .int (-1), .ref yreach, .int (-1), .int 0, .int 0, .int 0, .int 0, .int 0, .ref ymet, .int 0, .ref ypast, .ref yisAt, .ref ywaysTo, .ref ywide, .ref ydiamondFrom, .ref ydiamondTo, .int 0, .int 0, .int 0, .int 0, .ref ynotedPort, .ref ynotedGoal, .ref ynotedHop, .ref ynotedAddress, .ref yfitting, .int 0, .ref yrowThen, .int 0, .int 0, .int 0, .ref yimageRow, .ref ypastThen, .ref ynotedPortThen, .ref ynotedGoalThen, .ref ynotedHopThen, .ref ynotedAddressThen, .ref ystatusThen])), (ystatus, .inl (kI, 3, .inl (fun _ => 0)))] H := hP
  have hD : va_D A [(m0, .inr (11, [.ref ywords, .ref ykinds, .int 0, .ref ytold, .ref ykind, .ref ysalt, .ref ypace, .ref ymute, .ref ylate, .ref yfrom, .ref yto, .ref ygoal, .ref ynow, .ref ystatus, .ref ytape, .int 0, .int 0, .int 0, .int 0, .int 0, .int 0, .int 0, .int 0, .int 0, .int (-1), .ref yreach, .int (-1), .int 0, .int 0, .int 0, .int 0, .int 0, .ref ymet, .int 0, .ref ypast, .ref yisAt, .ref ywaysTo, .ref ywide, .ref ydiamondFrom, .ref ydiamondTo, .int 0, .int 0, .int 0, .int 0, .ref ynotedPort, .ref ynotedGoal, .ref ynotedHop, .ref ynotedAddress, .ref yfitting, .int 0, .ref yrowThen, .int 0, .int 0, .int 0, .ref yimageRow, .ref ypastThen, .ref ynotedPortThen, .ref ynotedGoalThen, .ref ynotedHopThen, .ref ynotedAddressThen, .ref ystatusThen])), (ystatus, .inl (kI, 3, .inl (fun _ => 0)))] := hD
  refine lv_iload_n hx hb dX11_loss_5 rfl (lv_at hl 1 rfl) ?_
  refine lv_iconst (v := 1) hx hb dX11_loss_6 (by decide) ?_
  refine lv_bipush (v := 50) hx hb dX11_loss_7 (by decide) ?_
  have hPc := hP.sub (ws' := []) [] rfl
  have hDc := hD.sub (ws' := []) [] (by decide) rfl
  have hFc := va_free (wc := []) hD hS hA [] rfl
  refine va_calli (va_runS (As := [.int p0, .int 1, .int 50]) (rest := []) ⟨hx, hb, hml, hown, hts⟩ (k11_isIn_hi l dC dI kB kI kJ kZ kC kS H.size p0 1 50 (by have hhc0 := hc0; simp only [Int32.lt_iff_toInt_lt, Int32.le_iff_toInt_le, ← Int32.toInt_inj, (by decide : (0 : Int32).toInt = 0), (by decide : (50 : Int32).toInt = 50)] at hhc0 ⊢; omega)) (va_cwS 3 hts gX11_loss_X11_isIn rfl rfl rfl (by decide +kernel) ⟨Nat.le_of_ble_eq_true rfl, Nat.le_of_ble_eq_true rfl⟩) ⟨fun a U g mk q => by obtain ⟨q0, q1, qP, qE, qD⟩ := q; exact ⟨q0, q1, qP, kE_call qE, qD⟩, fun U hU hW => ⟨rfl, by rw [hU], by rw [hU]; exact hPc, kE_warm hW hE, hDc.weaken (fun _ _ _ _ => trivial)⟩⟩ rfl rfl hl.1 rfl (lv_room (Nat.le_of_ble_eq_true rfl)) dX11_loss_9 ⟨Nat.le_of_ble_eq_true rfl, Nat.le_of_ble_eq_true rfl⟩) hS (fun q _ h => hFc q h) hFc (fun r1 u t H1 locs ht hvm w2 hB hz1 hk1 hS => ?_)
  obtain ⟨hP1, hD1⟩ := hB
  rw [ht] at hP1
  try dsimp only at w2
  obtain ⟨hP, hD⟩ := va_join (wr := [(m0, .inr (11, [.ref ywords, .ref ykinds, .int 0, .ref ytold, .ref ykind, .ref ysalt, .ref ypace, .ref ymute, .ref ylate, .ref yfrom, .ref yto, .ref ygoal, .ref ynow, .ref ystatus, .ref ytape, .int 0, .int 0, .int 0, .int 0, .int 0, .int 0, .int 0, .int 0, .int 0, .int (-1), .ref yreach, .int (-1), .int 0, .int 0, .int 0, .int 0, .int 0, .ref ymet, .int 0, .ref ypast, .ref yisAt, .ref ywaysTo, .ref ywide, .ref ydiamondFrom, .ref ydiamondTo, .int 0, .int 0, .int 0, .int 0, .ref ynotedPort, .ref ynotedGoal, .ref ynotedHop, .ref ynotedAddress, .ref yfitting, .int 0, .ref yrowThen, .int 0, .int 0, .int 0, .ref yimageRow, .ref ypastThen, .ref ynotedPortThen, .ref ynotedGoalThen, .ref ynotedHopThen, .ref ynotedAddressThen, .ref ystatusThen])), (ystatus, .inl (kI, 3, .inl (fun _ => 0)))]) (w1 := []) hP hD [] [0, 1] rfl rfl (by decide) (by decide) hk1 hFc hP1 hD1
  generalize H1 = H at hP hS ⊢
  have hP : va_P (dC, dI) vwCl [(m0, .inr (11, [.ref ywords, .ref ykinds, .int 0, .ref ytold, .ref ykind, .ref ysalt, .ref ypace, .ref ymute, .ref ylate, .ref yfrom, .ref yto, .ref ygoal, .ref ynow, .ref ystatus, .ref ytape, .int 0, .int 0, .int 0, .int 0, .int 0, .int 0, .int 0, .int 0, .int 0, .int (-1), .ref yreach, .int (-1), .int 0, .int 0, .int 0, .int 0, .int 0, .ref ymet, .int 0, .ref ypast, .ref yisAt, .ref ywaysTo, .ref ywide, .ref ydiamondFrom, .ref ydiamondTo, .int 0, .int 0, .int 0, .int 0, .ref ynotedPort, .ref ynotedGoal, .ref ynotedHop, .ref ynotedAddress, .ref yfitting, .int 0, .ref yrowThen, .int 0, .int 0, .int 0, .ref yimageRow, .ref ypastThen, .ref ynotedPortThen, .ref ynotedGoalThen, .ref ynotedHopThen, .ref ynotedAddressThen, .ref ystatusThen])), (ystatus, .inl (kI, 3, .inl (fun _ => 0)))] H := hP
  have hD : va_D A [(m0, .inr (11, [.ref ywords, .ref ykinds, .int 0, .ref ytold, .ref ykind, .ref ysalt, .ref ypace, .ref ymute, .ref ylate, .ref yfrom, .ref yto, .ref ygoal, .ref ynow, .ref ystatus, .ref ytape, .int 0, .int 0, .int 0, .int 0, .int 0, .int 0, .int 0, .int 0, .int 0, .int (-1), .ref yreach, .int (-1), .int 0, .int 0, .int 0, .int 0, .int 0, .ref ymet, .int 0, .ref ypast, .ref yisAt, .ref ywaysTo, .ref ywide, .ref ydiamondFrom, .ref ydiamondTo, .int 0, .int 0, .int 0, .int 0, .ref ynotedPort, .ref ynotedGoal, .ref ynotedHop, .ref ynotedAddress, .ref yfitting, .int 0, .ref yrowThen, .int 0, .int 0, .int 0, .ref yimageRow, .ref ypastThen, .ref ynotedPortThen, .ref ynotedGoalThen, .ref ynotedHopThen, .ref ynotedAddressThen, .ref ystatusThen])), (ystatus, .inl (kI, 3, .inl (fun _ => 0)))] := hD
  refine W.widen (k := 0) (n := 0) (Nat.le_of_ble_eq_true rfl) (Nat.le_of_ble_eq_true rfl) ?_
  subst w2
  refine lv_if_ne (tgt := 21) hx hb dX11_loss_12 (by decide) (fun c9 => absurd (by decide) c9) (fun _ => ?_)
  refine lv_aload_n hx hb dX11_loss_15 rfl (lv_at hl 0 rfl) ?_
  refine lv_iconst (v := 1) hx hb dX11_loss_16 (by decide) ?_
  have hPc := hP.sub (ws' := [(m0, .inr (11, [.ref ywords, .ref ykinds, .int 0, .ref ytold, .ref ykind, .ref ysalt, .ref ypace, .ref ymute, .ref ylate, .ref yfrom, .ref yto, .ref ygoal, .ref ynow, .ref ystatus, .ref ytape, .int 0, .int 0, .int 0, .int 0, .int 0, .int 0, .int 0, .int 0, .int 0, .int (-1), .ref yreach, .int (-1), .int 0, .int 0, .int 0, .int 0, .int 0, .ref ymet, .int 0, .ref ypast, .ref yisAt, .ref ywaysTo, .ref ywide, .ref ydiamondFrom, .ref ydiamondTo, .int 0, .int 0, .int 0, .int 0, .ref ynotedPort, .ref ynotedGoal, .ref ynotedHop, .ref ynotedAddress, .ref yfitting, .int 0, .ref yrowThen, .int 0, .int 0, .int 0, .ref yimageRow, .ref ypastThen, .ref ynotedPortThen, .ref ynotedGoalThen, .ref ynotedHopThen, .ref ynotedAddressThen, .ref ystatusThen])), (ystatus, .inl (kI, 3, .inl (fun _ => 0)))]) [0, 1] rfl
  have hDc := hD.sub (ws' := [(m0, .inr (11, [.ref ywords, .ref ykinds, .int 0, .ref ytold, .ref ykind, .ref ysalt, .ref ypace, .ref ymute, .ref ylate, .ref yfrom, .ref yto, .ref ygoal, .ref ynow, .ref ystatus, .ref ytape, .int 0, .int 0, .int 0, .int 0, .int 0, .int 0, .int 0, .int 0, .int 0, .int (-1), .ref yreach, .int (-1), .int 0, .int 0, .int 0, .int 0, .int 0, .ref ymet, .int 0, .ref ypast, .ref yisAt, .ref ywaysTo, .ref ywide, .ref ydiamondFrom, .ref ydiamondTo, .int 0, .int 0, .int 0, .int 0, .ref ynotedPort, .ref ynotedGoal, .ref ynotedHop, .ref ynotedAddress, .ref yfitting, .int 0, .ref yrowThen, .int 0, .int 0, .int 0, .ref yimageRow, .ref ypastThen, .ref ynotedPortThen, .ref ynotedGoalThen, .ref ynotedHopThen, .ref ynotedAddressThen, .ref ystatusThen])), (ystatus, .inl (kI, 3, .inl (fun _ => 0)))]) [0, 1] (by decide) rfl
  have hFc := va_free (wc := [(m0, .inr (11, [.ref ywords, .ref ykinds, .int 0, .ref ytold, .ref ykind, .ref ysalt, .ref ypace, .ref ymute, .ref ylate, .ref yfrom, .ref yto, .ref ygoal, .ref ynow, .ref ystatus, .ref ytape, .int 0, .int 0, .int 0, .int 0, .int 0, .int 0, .int 0, .int 0, .int 0, .int (-1), .ref yreach, .int (-1), .int 0, .int 0, .int 0, .int 0, .int 0, .ref ymet, .int 0, .ref ypast, .ref yisAt, .ref ywaysTo, .ref ywide, .ref ydiamondFrom, .ref ydiamondTo, .int 0, .int 0, .int 0, .int 0, .ref ynotedPort, .ref ynotedGoal, .ref ynotedHop, .ref ynotedAddress, .ref yfitting, .int 0, .ref yrowThen, .int 0, .int 0, .int 0, .ref yimageRow, .ref ypastThen, .ref ynotedPortThen, .ref ynotedGoalThen, .ref ynotedHopThen, .ref ynotedAddressThen, .ref ystatusThen])), (ystatus, .inl (kI, 3, .inl (fun _ => 0)))]) hD hS hA [0, 1] rfl
  refine va_calli (va_runV (As := [.int 1]) (rest := []) ⟨hx, hb, hml, hown, hts⟩ (k11_refuse1 l dC dI kB kI kJ kZ kC kS H.size m0 ywords ykinds ytold ykind ysalt ypace ymute ylate yfrom yto ygoal ynow ystatus ytape yreach ymet ypast yisAt ywaysTo ywide ydiamondFrom ydiamondTo ynotedPort ynotedGoal ynotedHop ynotedAddress yfitting yrowThen yimageRow ypastThen ynotedPortThen ynotedGoalThen ynotedHopThen ynotedAddressThen ystatusThen) (cwV 1 hts gX11_loss_X11_refuse rfl rfl rfl (by decide +kernel) ⟨Nat.le_of_ble_eq_true rfl, Nat.le_of_ble_eq_true rfl⟩) ⟨fun a U g mk q => by obtain ⟨q0, q1, qP, qE, qD⟩ := q; exact ⟨q0, q1, qP, kE_call qE, qD⟩, va_recv hK hP (ci := 11) (q0 := 0) rfl rfl, fun U hU hW => ⟨rfl, by rw [hU], by rw [hU]; exact hPc, kE_warm hW hE, hDc.weaken (fun _ _ _ _ => trivial)⟩⟩ rfl rfl hl.1 rfl (lv_room (Nat.le_of_ble_eq_true rfl)) dX11_loss_17 ⟨Nat.le_of_ble_eq_true rfl, Nat.le_of_ble_eq_true rfl⟩) hS (fun q _ h => hFc q h) hFc (fun r3 u t H1 locs ht hvm w4 hB hz1 hk1 hS => ?_)
  obtain ⟨hP1, hD1⟩ := hB
  rw [ht] at hP1
  try dsimp only at w4
  obtain ⟨hP, hD⟩ := va_join (wr := []) (w1 := [(m0, .inr (11, [.ref ywords, .ref ykinds, .int 0, .ref ytold, .ref ykind, .ref ysalt, .ref ypace, .ref ymute, .ref ylate, .ref yfrom, .ref yto, .ref ygoal, .ref ynow, .ref ystatus, .ref ytape, .int 0, .int 0, .int 0, .int 0, .int 0, .int 0, .int 0, .int 0, .int 0, .int (-1), .ref yreach, .int (-1), .int 0, .int 0, .int 0, .int 0, .int 0, .ref ymet, .int 0, .ref ypast, .ref yisAt, .ref ywaysTo, .ref ywide, .ref ydiamondFrom, .ref ydiamondTo, .int 0, .int 0, .int 0, .int 0, .ref ynotedPort, .ref ynotedGoal, .ref ynotedHop, .ref ynotedAddress, .ref yfitting, .int 0, .ref yrowThen, .int 0, .int 0, .int 0, .ref yimageRow, .ref ypastThen, .ref ynotedPortThen, .ref ynotedGoalThen, .ref ynotedHopThen, .ref ynotedAddressThen, .ref ystatusThen]))]) hP hD [0, 1] [] rfl rfl (by decide) (by decide) hk1 hFc hP1 hD1
  generalize H1 = H at hP hS ⊢
  have hP : va_P (dC, dI) vwCl [(m0, .inr (11, [.ref ywords, .ref ykinds, .int 0, .ref ytold, .ref ykind, .ref ysalt, .ref ypace, .ref ymute, .ref ylate, .ref yfrom, .ref yto, .ref ygoal, .ref ynow, .ref ystatus, .ref ytape, .int 0, .int 0, .int 0, .int 0, .int 0, .int 0, .int 0, .int 0, .int 0, .int (-1), .ref yreach, .int (-1), .int 0, .int 0, .int 0, .int 0, .int 0, .ref ymet, .int 0, .ref ypast, .ref yisAt, .ref ywaysTo, .ref ywide, .ref ydiamondFrom, .ref ydiamondTo, .int 0, .int 0, .int 0, .int 0, .ref ynotedPort, .ref ynotedGoal, .ref ynotedHop, .ref ynotedAddress, .ref yfitting, .int 0, .ref yrowThen, .int 0, .int 0, .int 0, .ref yimageRow, .ref ypastThen, .ref ynotedPortThen, .ref ynotedGoalThen, .ref ynotedHopThen, .ref ynotedAddressThen, .ref ystatusThen]))] H := hP
  have hD : va_D A [(m0, .inr (11, [.ref ywords, .ref ykinds, .int 0, .ref ytold, .ref ykind, .ref ysalt, .ref ypace, .ref ymute, .ref ylate, .ref yfrom, .ref yto, .ref ygoal, .ref ynow, .ref ystatus, .ref ytape, .int 0, .int 0, .int 0, .int 0, .int 0, .int 0, .int 0, .int 0, .int 0, .int (-1), .ref yreach, .int (-1), .int 0, .int 0, .int 0, .int 0, .int 0, .ref ymet, .int 0, .ref ypast, .ref yisAt, .ref ywaysTo, .ref ywide, .ref ydiamondFrom, .ref ydiamondTo, .int 0, .int 0, .int 0, .int 0, .ref ynotedPort, .ref ynotedGoal, .ref ynotedHop, .ref ynotedAddress, .ref yfitting, .int 0, .ref yrowThen, .int 0, .int 0, .int 0, .ref yimageRow, .ref ypastThen, .ref ynotedPortThen, .ref ynotedGoalThen, .ref ynotedHopThen, .ref ynotedAddressThen, .ref ystatusThen]))] := hD
  refine W.widen (k := 0) (n := 0) (Nat.le_of_ble_eq_true rfl) (Nat.le_of_ble_eq_true rfl) ?_
  subst w4
  have hP9 := hP.sub (ws' := []) [] rfl
  have hD9 := hD.sub (ws' := []) [] (by decide) rfl
  exact W.iret (v := (-1)) hx hb hr (fun t ht hW => ⟨⟨(-1), (), rfl, rfl, by rw [ht]; exact hP9, hD9⟩, hS.F ht⟩) hS.2.2 dX11_loss_20
def rm_k11_sentAll : Room := { frames := 0, cells := 0, slots := 0, locals := 0 }
set_option maxHeartbeats 4000000 in
set_option maxRecDepth 100000 in
theorem k11_sentAll (l : Launch) (dC : Nat → ClassId) (dI : Nat → Nat → Nat) (kB kI kJ kZ kC kS : ClassId) (sz : Nat) (m0 : Nat) (ywords : Nat) (ykinds : Nat) (ytold : Nat) (ykind : Nat) (ysalt : Nat) (ypace : Nat) (ymute : Nat) (ylate : Nat) (yfrom : Nat) (yto : Nat) (ygoal : Nat) (ynow : Nat) (ystatus : Nat) (ytape : Nat) (yreach : Nat) (ymet : Nat) (ypast : Nat) (yisAt : Nat) (ywaysTo : Nat) (ywide : Nat) (ydiamondFrom : Nat) (ydiamondTo : Nat) (ynotedPort : Nat) (ynotedGoal : Nat) (ynotedHop : Nat) (ynotedAddress : Nat) (yfitting : Nat) (yrowThen : Nat) (yimageRow : Nat) (ypastThen : Nat) (ynotedPortThen : Nat) (ynotedGoalThen : Nat) (ynotedHopThen : Nat) (ynotedAddressThen : Nat) (ystatusThen : Nat) : Met l yX11_sentAll wsX11_sentAll rm_k11_sentAll (va_Pc [.ref m0] (fun U => U.heap.size = sz ∧ va_P (dC, dI) vwCl [(m0, .inr (11, [.ref ywords, .ref ykinds, .int 0, .ref ytold, .ref ykind, .ref ysalt, .ref ypace, .ref ymute, .ref ylate, .ref yfrom, .ref yto, .ref ygoal, .ref ynow, .ref ystatus, .ref ytape, .int 0, .int 0, .int 0, .int 0, .int 0, .int 0, .int 0, .int 0, .int 0, .int (-1), .ref yreach, .int (-1), .int 0, .int 0, .int 0, .int 0, .int 0, .ref ymet, .int 0, .ref ypast, .ref yisAt, .ref ywaysTo, .ref ywide, .ref ydiamondFrom, .ref ydiamondTo, .int 0, .int 0, .int 0, .int 0, .ref ynotedPort, .ref ynotedGoal, .ref ynotedHop, .ref ynotedAddress, .ref yfitting, .int 0, .ref yrowThen, .int 0, .int 0, .int 0, .ref yimageRow, .ref ypastThen, .ref ynotedPortThen, .ref ynotedGoalThen, .ref ynotedHopThen, .ref ynotedAddressThen, .ref ystatusThen])), (ynow, .inl (kI, 1019, .inl (upd (fun _ => 0) 54 5)))] U.heap ∧ kE dC dI kB kI kJ kZ kC kS U ∧ va_D (fun _ => True) [(m0, .inr (11, [.ref ywords, .ref ykinds, .int 0, .ref ytold, .ref ykind, .ref ysalt, .ref ypace, .ref ymute, .ref ylate, .ref yfrom, .ref yto, .ref ygoal, .ref ynow, .ref ystatus, .ref ytape, .int 0, .int 0, .int 0, .int 0, .int 0, .int 0, .int 0, .int 0, .int 0, .int (-1), .ref yreach, .int (-1), .int 0, .int 0, .int 0, .int 0, .int 0, .ref ymet, .int 0, .ref ypast, .ref yisAt, .ref ywaysTo, .ref ywide, .ref ydiamondFrom, .ref ydiamondTo, .int 0, .int 0, .int 0, .int 0, .ref ynotedPort, .ref ynotedGoal, .ref ynotedHop, .ref ynotedAddress, .ref yfitting, .int 0, .ref yrowThen, .int 0, .int 0, .int 0, .ref yimageRow, .ref ypastThen, .ref ynotedPortThen, .ref ynotedGoalThen, .ref ynotedHopThen, .ref ynotedAddressThen, .ref ystatusThen])), (ynow, .inl (kI, 1019, .inl (upd (fun _ => 0) 54 5)))])) (va_Qi (fun (r : Int32) (_ : Unit) => r = 0) (fun _ t => va_P (dC, dI) vwCl [(m0, .inr (11, [.ref ywords, .ref ykinds, .int 0, .ref ytold, .ref ykind, .ref ysalt, .ref ypace, .ref ymute, .ref ylate, .ref yfrom, .ref yto, .ref ygoal, .ref ynow, .ref ystatus, .ref ytape, .int 0, .int 0, .int 0, .int 0, .int 0, .int 0, .int 0, .int 0, .int 0, .int (-1), .ref yreach, .int (-1), .int 0, .int 0, .int 0, .int 0, .int 0, .ref ymet, .int 0, .ref ypast, .ref yisAt, .ref ywaysTo, .ref ywide, .ref ydiamondFrom, .ref ydiamondTo, .int 0, .int 0, .int 0, .int 0, .ref ynotedPort, .ref ynotedGoal, .ref ynotedHop, .ref ynotedAddress, .ref yfitting, .int 0, .ref yrowThen, .int 0, .int 0, .int 0, .ref yimageRow, .ref ypastThen, .ref ynotedPortThen, .ref ynotedGoalThen, .ref ynotedHopThen, .ref ynotedAddressThen, .ref ystatusThen])), (ynow, .inl (kI, 1019, .inl (upd (fun _ => 0) 54 5)))] t.heap ∧ va_D (va_A [(m0, .inr (11, [.ref ywords, .ref ykinds, .int 0, .ref ytold, .ref ykind, .ref ysalt, .ref ypace, .ref ymute, .ref ylate, .ref yfrom, .ref yto, .ref ygoal, .ref ynow, .ref ystatus, .ref ytape, .int 0, .int 0, .int 0, .int 0, .int 0, .int 0, .int 0, .int 0, .int 0, .int (-1), .ref yreach, .int (-1), .int 0, .int 0, .int 0, .int 0, .int 0, .ref ymet, .int 0, .ref ypast, .ref yisAt, .ref ywaysTo, .ref ywide, .ref ydiamondFrom, .ref ydiamondTo, .int 0, .int 0, .int 0, .int 0, .ref ynotedPort, .ref ynotedGoal, .ref ynotedHop, .ref ynotedAddress, .ref yfitting, .int 0, .ref yrowThen, .int 0, .int 0, .int 0, .ref yimageRow, .ref ypastThen, .ref ynotedPortThen, .ref ynotedGoalThen, .ref ynotedHopThen, .ref ynotedAddressThen, .ref ystatusThen])), (ynow, .inl (kI, 1019, .inl (upd (fun _ => 0) 54 5)))] sz) [(m0, .inr (11, [.ref ywords, .ref ykinds, .int 0, .ref ytold, .ref ykind, .ref ysalt, .ref ypace, .ref ymute, .ref ylate, .ref yfrom, .ref yto, .ref ygoal, .ref ynow, .ref ystatus, .ref ytape, .int 0, .int 0, .int 0, .int 0, .int 0, .int 0, .int 0, .int 0, .int 0, .int (-1), .ref yreach, .int (-1), .int 0, .int 0, .int 0, .int 0, .int 0, .ref ymet, .int 0, .ref ypast, .ref yisAt, .ref ywaysTo, .ref ywide, .ref ydiamondFrom, .ref ydiamondTo, .int 0, .int 0, .int 0, .int 0, .ref ynotedPort, .ref ynotedGoal, .ref ynotedHop, .ref ynotedAddress, .ref yfitting, .int 0, .ref yrowThen, .int 0, .int 0, .int 0, .ref yimageRow, .ref ypastThen, .ref ynotedPortThen, .ref ynotedGoalThen, .ref ynotedHopThen, .ref ynotedAddressThen, .ref ystatusThen])), (ynow, .inl (kI, 1019, .inl (upd (fun _ => 0) 54 5)))]) (va_A [(m0, .inr (11, [.ref ywords, .ref ykinds, .int 0, .ref ytold, .ref ykind, .ref ysalt, .ref ypace, .ref ymute, .ref ylate, .ref yfrom, .ref yto, .ref ygoal, .ref ynow, .ref ystatus, .ref ytape, .int 0, .int 0, .int 0, .int 0, .int 0, .int 0, .int 0, .int 0, .int 0, .int (-1), .ref yreach, .int (-1), .int 0, .int 0, .int 0, .int 0, .int 0, .ref ymet, .int 0, .ref ypast, .ref yisAt, .ref ywaysTo, .ref ywide, .ref ydiamondFrom, .ref ydiamondTo, .int 0, .int 0, .int 0, .int 0, .ref ynotedPort, .ref ynotedGoal, .ref ynotedHop, .ref ynotedAddress, .ref yfitting, .int 0, .ref yrowThen, .int 0, .int 0, .int 0, .ref yimageRow, .ref ypastThen, .ref ynotedPortThen, .ref ynotedGoalThen, .ref ynotedHopThen, .ref ynotedAddressThen, .ref ystatusThen])), (ynow, .inl (kI, 1019, .inl (upd (fun _ => 0) 54 5)))] sz)) 0 0 (va_A [(m0, .inr (11, [.ref ywords, .ref ykinds, .int 0, .ref ytold, .ref ykind, .ref ysalt, .ref ypace, .ref ymute, .ref ylate, .ref yfrom, .ref yto, .ref ygoal, .ref ynow, .ref ystatus, .ref ytape, .int 0, .int 0, .int 0, .int 0, .int 0, .int 0, .int 0, .int 0, .int 0, .int (-1), .ref yreach, .int (-1), .int 0, .int 0, .int 0, .int 0, .int 0, .ref ymet, .int 0, .ref ypast, .ref yisAt, .ref ywaysTo, .ref ywide, .ref ydiamondFrom, .ref ydiamondTo, .int 0, .int 0, .int 0, .int 0, .ref ynotedPort, .ref ynotedGoal, .ref ynotedHop, .ref ynotedAddress, .ref yfitting, .int 0, .ref yrowThen, .int 0, .int 0, .int 0, .ref yimageRow, .ref ypastThen, .ref ynotedPortThen, .ref ynotedGoalThen, .ref ynotedHopThen, .ref ynotedAddressThen, .ref ystatusThen])), (ynow, .inl (kI, 1019, .inl (upd (fun _ => 0) 54 5)))] sz) := by
  refine Met.ofW (cc := cX11_sentAll) (maxL := 3) (ret := (some .int)) (by decide) rfl ?_
  intro p e s m args0 below meth c s₁ B hml hv
  obtain ⟨hargs, hsz, hP, hE, hD0⟩ := hv
  have hx := B.exec
  have hb := B.bytes
  have hr := B.returns
  have hts := atoms_spec (ws := wsX11_sentAll) B.pre
  have hown : s.vm.findClass RX11 = some m.cls := findClass_of_methodNamed B.named
  have hlocks := B.notSynchronized
  have hK := hE.1
  have hin11 : ∀ w ∈ wsX110, w ∈ wsX11_sentAll := fun _ h9 => List.mem_cons_of_mem _ (List.mem_append_right _ h9)
  subst hsz
  have hD := hD0.self (sz := s.heap.size)
  generalize hAe : va_A [(m0, .inr (11, [.ref ywords, .ref ykinds, .int 0, .ref ytold, .ref ykind, .ref ysalt, .ref ypace, .ref ymute, .ref ylate, .ref yfrom, .ref yto, .ref ygoal, .ref ynow, .ref ystatus, .ref ytape, .int 0, .int 0, .int 0, .int 0, .int 0, .int 0, .int 0, .int 0, .int 0, .int (-1), .ref yreach, .int (-1), .int 0, .int 0, .int 0, .int 0, .int 0, .ref ymet, .int 0, .ref ypast, .ref yisAt, .ref ywaysTo, .ref ywide, .ref ydiamondFrom, .ref ydiamondTo, .int 0, .int 0, .int 0, .int 0, .ref ynotedPort, .ref ynotedGoal, .ref ynotedHop, .ref ynotedAddress, .ref yfitting, .int 0, .ref yrowThen, .int 0, .int 0, .int 0, .ref yimageRow, .ref ypastThen, .ref ynotedPortThen, .ref ynotedGoalThen, .ref ynotedHopThen, .ref ynotedAddressThen, .ref ystatusThen])), (ynow, .inl (kI, 1019, .inl (upd (fun _ => 0) 54 5)))] s.heap.size = A at hD ⊢
  have hA : ∀ q : Nat, s.heap.size ≤ q → A q := fun q h => by rw [← hAe]; exact Or.inr h
  have hS : va_S A s.heap s.heap [] := va_S.rf
  have hP : va_P (dC, dI) vwCl [(m0, .inr (11, [.ref ywords, .ref ykinds, .int 0, .ref ytold, .ref ykind, .ref ysalt, .ref ypace, .ref ymute, .ref ylate, .ref yfrom, .ref yto, .ref ygoal, .ref ynow, .ref ystatus, .ref ytape, .int 0, .int 0, .int 0, .int 0, .int 0, .int 0, .int 0, .int 0, .int 0, .int (-1), .ref yreach, .int (-1), .int 0, .int 0, .int 0, .int 0, .int 0, .ref ymet, .int 0, .ref ypast, .ref yisAt, .ref ywaysTo, .ref ywide, .ref ydiamondFrom, .ref ydiamondTo, .int 0, .int 0, .int 0, .int 0, .ref ynotedPort, .ref ynotedGoal, .ref ynotedHop, .ref ynotedAddress, .ref yfitting, .int 0, .ref yrowThen, .int 0, .int 0, .int 0, .ref yimageRow, .ref ypastThen, .ref ynotedPortThen, .ref ynotedGoalThen, .ref ynotedHopThen, .ref ynotedAddressThen, .ref ystatusThen])), (ynow, .inl (kI, 1019, .inl (upd (fun _ => 0) 54 5)))] s.heap := hP
  have hl := lv_entry ([.ref m0]) (n := 3) (Nat.le_of_ble_eq_true rfl)
  have hla : entryFrame m args0 3 = entryFrame m ([.ref m0] : List Value).toArray 3 := by rw [hargs]
  rw [hla, lg_entry_eq]
  generalize (lg_sl ([.ref m0]) ++ List.replicate (3 - (lg_sl ([.ref m0])).length) Slot.unset).toArray = ls at hl ⊢
  have hl : lv_has ls 3 [(0, .ref m0)] := hl
  refine lv_iconst (v := 0) hx hb dX11_sentAll_0 (by decide) ?_
  refine lv_istore_n (lv' := [(1, .int 0), (0, .ref m0)]) hx hb dX11_sentAll_1 rfl hl (by decide) rfl (fun ls hl => ?_)
  refine lv_iconst (v := 0) hx hb dX11_sentAll_2 (by decide) ?_
  refine lv_istore_n (lv' := [(2, .int 0), (1, .int 0), (0, .ref m0)]) hx hb dX11_sentAll_3 rfl hl (by decide) rfl (fun ls hl => ?_)
  refine lv_iload_n hx hb dX11_sentAll_4 rfl (lv_at hl 0 rfl) ?_
  refine lv_bipush (v := 30) hx hb dX11_sentAll_5 (by decide) ?_
  refine lv_icmp_ge (tgt := 28) hx hb dX11_sentAll_7 (by decide) (fun c9 => absurd c9 (by decide)) (fun _ => ?_)
  refine lv_iload_n hx hb dX11_sentAll_10 rfl (lv_at hl 1 rfl) ?_
  refine lv_aload_n hx hb dX11_sentAll_11 rfl (lv_at hl 2 rfl) ?_
  refine va_get (D := (dC, dI)) (ci := 11) (v := .ref ynow) (C := RX11) (T := TX11) (N := 61) hx hb hts hin11 hown hK hP 0 rfl rfl 12 (by decide) (hts (.fieldLink RX11 60 "PathProberModel" "now" "[I") (List.mem_of_getElem? (i := 1) (by decide +kernel))) (fun _ h9 => h9) rfl dX11_sentAll_12 ?_
  refine lv_bipush (v := 24) hx hb dX11_sentAll_15 (by decide) ?_
  refine lv_iload_n hx hb dX11_sentAll_17 rfl (lv_at hl 0 rfl) ?_
  refine lv_iadd hx hb dX11_sentAll_18 ?_
  refine lv_topi (fun z1 e2 => ?_)
  obtain rfl : z1 = (24 : Int32) := e2.trans (by decide)
  refine va_iald hx hb hK hP 1 1 rfl rfl (vp_in_nI (n := 24) (by decide) (by decide)) dX11_sentAll_19 ?_
  refine lv_topi (fun z3 e4 => ?_)
  obtain rfl : z3 = (0 : Int32) := e4.trans (by decide)
  refine lv_iadd hx hb dX11_sentAll_20 ?_
  refine lv_topi (fun z5 e6 => ?_)
  obtain rfl : z5 = (0 : Int32) := e6.trans (by decide)
  refine lv_istore_n (lv' := [(1, .int 0), (2, .int 0), (0, .ref m0)]) hx hb dX11_sentAll_21 rfl hl (by decide) rfl (fun ls hl => ?_)
  refine lv_iinc (v := 1) (lv' := [(2, .int 1), (1, .int 0), (0, .ref m0)]) hx hb dX11_sentAll_22 hl (k := 1) rfl (by decide) (by decide) rfl (fun ls hl => ?_)
  refine lv_goto (tgt := 4) hx hb dX11_sentAll_25 (by decide) ?_
  refine lv_iload_n hx hb dX11_sentAll_4 rfl (lv_at hl 0 rfl) ?_
  refine lv_bipush (v := 30) hx hb dX11_sentAll_5 (by decide) ?_
  refine lv_icmp_ge (tgt := 28) hx hb dX11_sentAll_7 (by decide) (fun c9 => absurd c9 (by decide)) (fun _ => ?_)
  refine lv_iload_n hx hb dX11_sentAll_10 rfl (lv_at hl 1 rfl) ?_
  refine lv_aload_n hx hb dX11_sentAll_11 rfl (lv_at hl 2 rfl) ?_
  refine va_get (D := (dC, dI)) (ci := 11) (v := .ref ynow) (C := RX11) (T := TX11) (N := 61) hx hb hts hin11 hown hK hP 0 rfl rfl 12 (by decide) (hts (.fieldLink RX11 60 "PathProberModel" "now" "[I") (List.mem_of_getElem? (i := 1) (by decide +kernel))) (fun _ h9 => h9) rfl dX11_sentAll_12 ?_
  refine lv_bipush (v := 24) hx hb dX11_sentAll_15 (by decide) ?_
  refine lv_iload_n hx hb dX11_sentAll_17 rfl (lv_at hl 0 rfl) ?_
  refine lv_iadd hx hb dX11_sentAll_18 ?_
  refine lv_topi (fun z7 e8 => ?_)
  obtain rfl : z7 = (25 : Int32) := e8.trans (by decide)
  refine va_iald hx hb hK hP 1 1 rfl rfl (vp_in_nI (n := 25) (by decide) (by decide)) dX11_sentAll_19 ?_
  refine lv_topi (fun z9 e10 => ?_)
  obtain rfl : z9 = (0 : Int32) := e10.trans (by decide)
  refine lv_iadd hx hb dX11_sentAll_20 ?_
  refine lv_topi (fun z11 e12 => ?_)
  obtain rfl : z11 = (0 : Int32) := e12.trans (by decide)
  refine lv_istore_n (lv' := [(1, .int 0), (2, .int 1), (0, .ref m0)]) hx hb dX11_sentAll_21 rfl hl (by decide) rfl (fun ls hl => ?_)
  refine lv_iinc (v := 2) (lv' := [(2, .int 2), (1, .int 0), (0, .ref m0)]) hx hb dX11_sentAll_22 hl (k := 1) rfl (by decide) (by decide) rfl (fun ls hl => ?_)
  refine lv_goto (tgt := 4) hx hb dX11_sentAll_25 (by decide) ?_
  refine lv_iload_n hx hb dX11_sentAll_4 rfl (lv_at hl 0 rfl) ?_
  refine lv_bipush (v := 30) hx hb dX11_sentAll_5 (by decide) ?_
  refine lv_icmp_ge (tgt := 28) hx hb dX11_sentAll_7 (by decide) (fun c9 => absurd c9 (by decide)) (fun _ => ?_)
  refine lv_iload_n hx hb dX11_sentAll_10 rfl (lv_at hl 1 rfl) ?_
  refine lv_aload_n hx hb dX11_sentAll_11 rfl (lv_at hl 2 rfl) ?_
  refine va_get (D := (dC, dI)) (ci := 11) (v := .ref ynow) (C := RX11) (T := TX11) (N := 61) hx hb hts hin11 hown hK hP 0 rfl rfl 12 (by decide) (hts (.fieldLink RX11 60 "PathProberModel" "now" "[I") (List.mem_of_getElem? (i := 1) (by decide +kernel))) (fun _ h9 => h9) rfl dX11_sentAll_12 ?_
  refine lv_bipush (v := 24) hx hb dX11_sentAll_15 (by decide) ?_
  refine lv_iload_n hx hb dX11_sentAll_17 rfl (lv_at hl 0 rfl) ?_
  refine lv_iadd hx hb dX11_sentAll_18 ?_
  refine lv_topi (fun z13 e14 => ?_)
  obtain rfl : z13 = (26 : Int32) := e14.trans (by decide)
  refine va_iald hx hb hK hP 1 1 rfl rfl (vp_in_nI (n := 26) (by decide) (by decide)) dX11_sentAll_19 ?_
  refine lv_topi (fun z15 e16 => ?_)
  obtain rfl : z15 = (0 : Int32) := e16.trans (by decide)
  refine lv_iadd hx hb dX11_sentAll_20 ?_
  refine lv_topi (fun z17 e18 => ?_)
  obtain rfl : z17 = (0 : Int32) := e18.trans (by decide)
  refine lv_istore_n (lv' := [(1, .int 0), (2, .int 2), (0, .ref m0)]) hx hb dX11_sentAll_21 rfl hl (by decide) rfl (fun ls hl => ?_)
  refine lv_iinc (v := 3) (lv' := [(2, .int 3), (1, .int 0), (0, .ref m0)]) hx hb dX11_sentAll_22 hl (k := 1) rfl (by decide) (by decide) rfl (fun ls hl => ?_)
  refine lv_goto (tgt := 4) hx hb dX11_sentAll_25 (by decide) ?_
  refine lv_iload_n hx hb dX11_sentAll_4 rfl (lv_at hl 0 rfl) ?_
  refine lv_bipush (v := 30) hx hb dX11_sentAll_5 (by decide) ?_
  refine lv_icmp_ge (tgt := 28) hx hb dX11_sentAll_7 (by decide) (fun c9 => absurd c9 (by decide)) (fun _ => ?_)
  refine lv_iload_n hx hb dX11_sentAll_10 rfl (lv_at hl 1 rfl) ?_
  refine lv_aload_n hx hb dX11_sentAll_11 rfl (lv_at hl 2 rfl) ?_
  refine va_get (D := (dC, dI)) (ci := 11) (v := .ref ynow) (C := RX11) (T := TX11) (N := 61) hx hb hts hin11 hown hK hP 0 rfl rfl 12 (by decide) (hts (.fieldLink RX11 60 "PathProberModel" "now" "[I") (List.mem_of_getElem? (i := 1) (by decide +kernel))) (fun _ h9 => h9) rfl dX11_sentAll_12 ?_
  refine lv_bipush (v := 24) hx hb dX11_sentAll_15 (by decide) ?_
  refine lv_iload_n hx hb dX11_sentAll_17 rfl (lv_at hl 0 rfl) ?_
  refine lv_iadd hx hb dX11_sentAll_18 ?_
  refine lv_topi (fun z19 e20 => ?_)
  obtain rfl : z19 = (27 : Int32) := e20.trans (by decide)
  refine va_iald hx hb hK hP 1 1 rfl rfl (vp_in_nI (n := 27) (by decide) (by decide)) dX11_sentAll_19 ?_
  refine lv_topi (fun z21 e22 => ?_)
  obtain rfl : z21 = (0 : Int32) := e22.trans (by decide)
  refine lv_iadd hx hb dX11_sentAll_20 ?_
  refine lv_topi (fun z23 e24 => ?_)
  obtain rfl : z23 = (0 : Int32) := e24.trans (by decide)
  refine lv_istore_n (lv' := [(1, .int 0), (2, .int 3), (0, .ref m0)]) hx hb dX11_sentAll_21 rfl hl (by decide) rfl (fun ls hl => ?_)
  refine lv_iinc (v := 4) (lv' := [(2, .int 4), (1, .int 0), (0, .ref m0)]) hx hb dX11_sentAll_22 hl (k := 1) rfl (by decide) (by decide) rfl (fun ls hl => ?_)
  refine lv_goto (tgt := 4) hx hb dX11_sentAll_25 (by decide) ?_
  refine lv_iload_n hx hb dX11_sentAll_4 rfl (lv_at hl 0 rfl) ?_
  refine lv_bipush (v := 30) hx hb dX11_sentAll_5 (by decide) ?_
  refine lv_icmp_ge (tgt := 28) hx hb dX11_sentAll_7 (by decide) (fun c9 => absurd c9 (by decide)) (fun _ => ?_)
  refine lv_iload_n hx hb dX11_sentAll_10 rfl (lv_at hl 1 rfl) ?_
  refine lv_aload_n hx hb dX11_sentAll_11 rfl (lv_at hl 2 rfl) ?_
  refine va_get (D := (dC, dI)) (ci := 11) (v := .ref ynow) (C := RX11) (T := TX11) (N := 61) hx hb hts hin11 hown hK hP 0 rfl rfl 12 (by decide) (hts (.fieldLink RX11 60 "PathProberModel" "now" "[I") (List.mem_of_getElem? (i := 1) (by decide +kernel))) (fun _ h9 => h9) rfl dX11_sentAll_12 ?_
  refine lv_bipush (v := 24) hx hb dX11_sentAll_15 (by decide) ?_
  refine lv_iload_n hx hb dX11_sentAll_17 rfl (lv_at hl 0 rfl) ?_
  refine lv_iadd hx hb dX11_sentAll_18 ?_
  refine lv_topi (fun z25 e26 => ?_)
  obtain rfl : z25 = (28 : Int32) := e26.trans (by decide)
  refine va_iald hx hb hK hP 1 1 rfl rfl (vp_in_nI (n := 28) (by decide) (by decide)) dX11_sentAll_19 ?_
  refine lv_topi (fun z27 e28 => ?_)
  obtain rfl : z27 = (0 : Int32) := e28.trans (by decide)
  refine lv_iadd hx hb dX11_sentAll_20 ?_
  refine lv_topi (fun z29 e30 => ?_)
  obtain rfl : z29 = (0 : Int32) := e30.trans (by decide)
  refine lv_istore_n (lv' := [(1, .int 0), (2, .int 4), (0, .ref m0)]) hx hb dX11_sentAll_21 rfl hl (by decide) rfl (fun ls hl => ?_)
  refine lv_iinc (v := 5) (lv' := [(2, .int 5), (1, .int 0), (0, .ref m0)]) hx hb dX11_sentAll_22 hl (k := 1) rfl (by decide) (by decide) rfl (fun ls hl => ?_)
  refine lv_goto (tgt := 4) hx hb dX11_sentAll_25 (by decide) ?_
  refine lv_iload_n hx hb dX11_sentAll_4 rfl (lv_at hl 0 rfl) ?_
  refine lv_bipush (v := 30) hx hb dX11_sentAll_5 (by decide) ?_
  refine lv_icmp_ge (tgt := 28) hx hb dX11_sentAll_7 (by decide) (fun c9 => absurd c9 (by decide)) (fun _ => ?_)
  refine lv_iload_n hx hb dX11_sentAll_10 rfl (lv_at hl 1 rfl) ?_
  refine lv_aload_n hx hb dX11_sentAll_11 rfl (lv_at hl 2 rfl) ?_
  refine va_get (D := (dC, dI)) (ci := 11) (v := .ref ynow) (C := RX11) (T := TX11) (N := 61) hx hb hts hin11 hown hK hP 0 rfl rfl 12 (by decide) (hts (.fieldLink RX11 60 "PathProberModel" "now" "[I") (List.mem_of_getElem? (i := 1) (by decide +kernel))) (fun _ h9 => h9) rfl dX11_sentAll_12 ?_
  refine lv_bipush (v := 24) hx hb dX11_sentAll_15 (by decide) ?_
  refine lv_iload_n hx hb dX11_sentAll_17 rfl (lv_at hl 0 rfl) ?_
  refine lv_iadd hx hb dX11_sentAll_18 ?_
  refine lv_topi (fun z31 e32 => ?_)
  obtain rfl : z31 = (29 : Int32) := e32.trans (by decide)
  refine va_iald hx hb hK hP 1 1 rfl rfl (vp_in_nI (n := 29) (by decide) (by decide)) dX11_sentAll_19 ?_
  refine lv_topi (fun z33 e34 => ?_)
  obtain rfl : z33 = (0 : Int32) := e34.trans (by decide)
  refine lv_iadd hx hb dX11_sentAll_20 ?_
  refine lv_topi (fun z35 e36 => ?_)
  obtain rfl : z35 = (0 : Int32) := e36.trans (by decide)
  refine lv_istore_n (lv' := [(1, .int 0), (2, .int 5), (0, .ref m0)]) hx hb dX11_sentAll_21 rfl hl (by decide) rfl (fun ls hl => ?_)
  refine lv_iinc (v := 6) (lv' := [(2, .int 6), (1, .int 0), (0, .ref m0)]) hx hb dX11_sentAll_22 hl (k := 1) rfl (by decide) (by decide) rfl (fun ls hl => ?_)
  refine lv_goto (tgt := 4) hx hb dX11_sentAll_25 (by decide) ?_
  refine lv_iload_n hx hb dX11_sentAll_4 rfl (lv_at hl 0 rfl) ?_
  refine lv_bipush (v := 30) hx hb dX11_sentAll_5 (by decide) ?_
  refine lv_icmp_ge (tgt := 28) hx hb dX11_sentAll_7 (by decide) (fun c9 => absurd c9 (by decide)) (fun _ => ?_)
  refine lv_iload_n hx hb dX11_sentAll_10 rfl (lv_at hl 1 rfl) ?_
  refine lv_aload_n hx hb dX11_sentAll_11 rfl (lv_at hl 2 rfl) ?_
  refine va_get (D := (dC, dI)) (ci := 11) (v := .ref ynow) (C := RX11) (T := TX11) (N := 61) hx hb hts hin11 hown hK hP 0 rfl rfl 12 (by decide) (hts (.fieldLink RX11 60 "PathProberModel" "now" "[I") (List.mem_of_getElem? (i := 1) (by decide +kernel))) (fun _ h9 => h9) rfl dX11_sentAll_12 ?_
  refine lv_bipush (v := 24) hx hb dX11_sentAll_15 (by decide) ?_
  refine lv_iload_n hx hb dX11_sentAll_17 rfl (lv_at hl 0 rfl) ?_
  refine lv_iadd hx hb dX11_sentAll_18 ?_
  refine lv_topi (fun z37 e38 => ?_)
  obtain rfl : z37 = (30 : Int32) := e38.trans (by decide)
  refine va_iald hx hb hK hP 1 1 rfl rfl (vp_in_nI (n := 30) (by decide) (by decide)) dX11_sentAll_19 ?_
  refine lv_topi (fun z39 e40 => ?_)
  obtain rfl : z39 = (0 : Int32) := e40.trans (by decide)
  refine lv_iadd hx hb dX11_sentAll_20 ?_
  refine lv_topi (fun z41 e42 => ?_)
  obtain rfl : z41 = (0 : Int32) := e42.trans (by decide)
  refine lv_istore_n (lv' := [(1, .int 0), (2, .int 6), (0, .ref m0)]) hx hb dX11_sentAll_21 rfl hl (by decide) rfl (fun ls hl => ?_)
  refine lv_iinc (v := 7) (lv' := [(2, .int 7), (1, .int 0), (0, .ref m0)]) hx hb dX11_sentAll_22 hl (k := 1) rfl (by decide) (by decide) rfl (fun ls hl => ?_)
  refine lv_goto (tgt := 4) hx hb dX11_sentAll_25 (by decide) ?_
  refine lv_iload_n hx hb dX11_sentAll_4 rfl (lv_at hl 0 rfl) ?_
  refine lv_bipush (v := 30) hx hb dX11_sentAll_5 (by decide) ?_
  refine lv_icmp_ge (tgt := 28) hx hb dX11_sentAll_7 (by decide) (fun c9 => absurd c9 (by decide)) (fun _ => ?_)
  refine lv_iload_n hx hb dX11_sentAll_10 rfl (lv_at hl 1 rfl) ?_
  refine lv_aload_n hx hb dX11_sentAll_11 rfl (lv_at hl 2 rfl) ?_
  refine va_get (D := (dC, dI)) (ci := 11) (v := .ref ynow) (C := RX11) (T := TX11) (N := 61) hx hb hts hin11 hown hK hP 0 rfl rfl 12 (by decide) (hts (.fieldLink RX11 60 "PathProberModel" "now" "[I") (List.mem_of_getElem? (i := 1) (by decide +kernel))) (fun _ h9 => h9) rfl dX11_sentAll_12 ?_
  refine lv_bipush (v := 24) hx hb dX11_sentAll_15 (by decide) ?_
  refine lv_iload_n hx hb dX11_sentAll_17 rfl (lv_at hl 0 rfl) ?_
  refine lv_iadd hx hb dX11_sentAll_18 ?_
  refine lv_topi (fun z43 e44 => ?_)
  obtain rfl : z43 = (31 : Int32) := e44.trans (by decide)
  refine va_iald hx hb hK hP 1 1 rfl rfl (vp_in_nI (n := 31) (by decide) (by decide)) dX11_sentAll_19 ?_
  refine lv_topi (fun z45 e46 => ?_)
  obtain rfl : z45 = (0 : Int32) := e46.trans (by decide)
  refine lv_iadd hx hb dX11_sentAll_20 ?_
  refine lv_topi (fun z47 e48 => ?_)
  obtain rfl : z47 = (0 : Int32) := e48.trans (by decide)
  refine lv_istore_n (lv' := [(1, .int 0), (2, .int 7), (0, .ref m0)]) hx hb dX11_sentAll_21 rfl hl (by decide) rfl (fun ls hl => ?_)
  refine lv_iinc (v := 8) (lv' := [(2, .int 8), (1, .int 0), (0, .ref m0)]) hx hb dX11_sentAll_22 hl (k := 1) rfl (by decide) (by decide) rfl (fun ls hl => ?_)
  refine lv_goto (tgt := 4) hx hb dX11_sentAll_25 (by decide) ?_
  refine lv_iload_n hx hb dX11_sentAll_4 rfl (lv_at hl 0 rfl) ?_
  refine lv_bipush (v := 30) hx hb dX11_sentAll_5 (by decide) ?_
  refine lv_icmp_ge (tgt := 28) hx hb dX11_sentAll_7 (by decide) (fun c9 => absurd c9 (by decide)) (fun _ => ?_)
  refine lv_iload_n hx hb dX11_sentAll_10 rfl (lv_at hl 1 rfl) ?_
  refine lv_aload_n hx hb dX11_sentAll_11 rfl (lv_at hl 2 rfl) ?_
  refine va_get (D := (dC, dI)) (ci := 11) (v := .ref ynow) (C := RX11) (T := TX11) (N := 61) hx hb hts hin11 hown hK hP 0 rfl rfl 12 (by decide) (hts (.fieldLink RX11 60 "PathProberModel" "now" "[I") (List.mem_of_getElem? (i := 1) (by decide +kernel))) (fun _ h9 => h9) rfl dX11_sentAll_12 ?_
  refine lv_bipush (v := 24) hx hb dX11_sentAll_15 (by decide) ?_
  refine lv_iload_n hx hb dX11_sentAll_17 rfl (lv_at hl 0 rfl) ?_
  refine lv_iadd hx hb dX11_sentAll_18 ?_
  refine lv_topi (fun z49 e50 => ?_)
  obtain rfl : z49 = (32 : Int32) := e50.trans (by decide)
  refine va_iald hx hb hK hP 1 1 rfl rfl (vp_in_nI (n := 32) (by decide) (by decide)) dX11_sentAll_19 ?_
  refine lv_topi (fun z51 e52 => ?_)
  obtain rfl : z51 = (0 : Int32) := e52.trans (by decide)
  refine lv_iadd hx hb dX11_sentAll_20 ?_
  refine lv_topi (fun z53 e54 => ?_)
  obtain rfl : z53 = (0 : Int32) := e54.trans (by decide)
  refine lv_istore_n (lv' := [(1, .int 0), (2, .int 8), (0, .ref m0)]) hx hb dX11_sentAll_21 rfl hl (by decide) rfl (fun ls hl => ?_)
  refine lv_iinc (v := 9) (lv' := [(2, .int 9), (1, .int 0), (0, .ref m0)]) hx hb dX11_sentAll_22 hl (k := 1) rfl (by decide) (by decide) rfl (fun ls hl => ?_)
  refine lv_goto (tgt := 4) hx hb dX11_sentAll_25 (by decide) ?_
  refine lv_iload_n hx hb dX11_sentAll_4 rfl (lv_at hl 0 rfl) ?_
  refine lv_bipush (v := 30) hx hb dX11_sentAll_5 (by decide) ?_
  refine lv_icmp_ge (tgt := 28) hx hb dX11_sentAll_7 (by decide) (fun c9 => absurd c9 (by decide)) (fun _ => ?_)
  refine lv_iload_n hx hb dX11_sentAll_10 rfl (lv_at hl 1 rfl) ?_
  refine lv_aload_n hx hb dX11_sentAll_11 rfl (lv_at hl 2 rfl) ?_
  refine va_get (D := (dC, dI)) (ci := 11) (v := .ref ynow) (C := RX11) (T := TX11) (N := 61) hx hb hts hin11 hown hK hP 0 rfl rfl 12 (by decide) (hts (.fieldLink RX11 60 "PathProberModel" "now" "[I") (List.mem_of_getElem? (i := 1) (by decide +kernel))) (fun _ h9 => h9) rfl dX11_sentAll_12 ?_
  refine lv_bipush (v := 24) hx hb dX11_sentAll_15 (by decide) ?_
  refine lv_iload_n hx hb dX11_sentAll_17 rfl (lv_at hl 0 rfl) ?_
  refine lv_iadd hx hb dX11_sentAll_18 ?_
  refine lv_topi (fun z55 e56 => ?_)
  obtain rfl : z55 = (33 : Int32) := e56.trans (by decide)
  refine va_iald hx hb hK hP 1 1 rfl rfl (vp_in_nI (n := 33) (by decide) (by decide)) dX11_sentAll_19 ?_
  refine lv_topi (fun z57 e58 => ?_)
  obtain rfl : z57 = (0 : Int32) := e58.trans (by decide)
  refine lv_iadd hx hb dX11_sentAll_20 ?_
  refine lv_topi (fun z59 e60 => ?_)
  obtain rfl : z59 = (0 : Int32) := e60.trans (by decide)
  refine lv_istore_n (lv' := [(1, .int 0), (2, .int 9), (0, .ref m0)]) hx hb dX11_sentAll_21 rfl hl (by decide) rfl (fun ls hl => ?_)
  refine lv_iinc (v := 10) (lv' := [(2, .int 10), (1, .int 0), (0, .ref m0)]) hx hb dX11_sentAll_22 hl (k := 1) rfl (by decide) (by decide) rfl (fun ls hl => ?_)
  refine lv_goto (tgt := 4) hx hb dX11_sentAll_25 (by decide) ?_
  refine lv_iload_n hx hb dX11_sentAll_4 rfl (lv_at hl 0 rfl) ?_
  refine lv_bipush (v := 30) hx hb dX11_sentAll_5 (by decide) ?_
  refine lv_icmp_ge (tgt := 28) hx hb dX11_sentAll_7 (by decide) (fun c9 => absurd c9 (by decide)) (fun _ => ?_)
  refine lv_iload_n hx hb dX11_sentAll_10 rfl (lv_at hl 1 rfl) ?_
  refine lv_aload_n hx hb dX11_sentAll_11 rfl (lv_at hl 2 rfl) ?_
  refine va_get (D := (dC, dI)) (ci := 11) (v := .ref ynow) (C := RX11) (T := TX11) (N := 61) hx hb hts hin11 hown hK hP 0 rfl rfl 12 (by decide) (hts (.fieldLink RX11 60 "PathProberModel" "now" "[I") (List.mem_of_getElem? (i := 1) (by decide +kernel))) (fun _ h9 => h9) rfl dX11_sentAll_12 ?_
  refine lv_bipush (v := 24) hx hb dX11_sentAll_15 (by decide) ?_
  refine lv_iload_n hx hb dX11_sentAll_17 rfl (lv_at hl 0 rfl) ?_
  refine lv_iadd hx hb dX11_sentAll_18 ?_
  refine lv_topi (fun z61 e62 => ?_)
  obtain rfl : z61 = (34 : Int32) := e62.trans (by decide)
  refine va_iald hx hb hK hP 1 1 rfl rfl (vp_in_nI (n := 34) (by decide) (by decide)) dX11_sentAll_19 ?_
  refine lv_topi (fun z63 e64 => ?_)
  obtain rfl : z63 = (0 : Int32) := e64.trans (by decide)
  refine lv_iadd hx hb dX11_sentAll_20 ?_
  refine lv_topi (fun z65 e66 => ?_)
  obtain rfl : z65 = (0 : Int32) := e66.trans (by decide)
  refine lv_istore_n (lv' := [(1, .int 0), (2, .int 10), (0, .ref m0)]) hx hb dX11_sentAll_21 rfl hl (by decide) rfl (fun ls hl => ?_)
  refine lv_iinc (v := 11) (lv' := [(2, .int 11), (1, .int 0), (0, .ref m0)]) hx hb dX11_sentAll_22 hl (k := 1) rfl (by decide) (by decide) rfl (fun ls hl => ?_)
  refine lv_goto (tgt := 4) hx hb dX11_sentAll_25 (by decide) ?_
  refine lv_iload_n hx hb dX11_sentAll_4 rfl (lv_at hl 0 rfl) ?_
  refine lv_bipush (v := 30) hx hb dX11_sentAll_5 (by decide) ?_
  refine lv_icmp_ge (tgt := 28) hx hb dX11_sentAll_7 (by decide) (fun c9 => absurd c9 (by decide)) (fun _ => ?_)
  refine lv_iload_n hx hb dX11_sentAll_10 rfl (lv_at hl 1 rfl) ?_
  refine lv_aload_n hx hb dX11_sentAll_11 rfl (lv_at hl 2 rfl) ?_
  refine va_get (D := (dC, dI)) (ci := 11) (v := .ref ynow) (C := RX11) (T := TX11) (N := 61) hx hb hts hin11 hown hK hP 0 rfl rfl 12 (by decide) (hts (.fieldLink RX11 60 "PathProberModel" "now" "[I") (List.mem_of_getElem? (i := 1) (by decide +kernel))) (fun _ h9 => h9) rfl dX11_sentAll_12 ?_
  refine lv_bipush (v := 24) hx hb dX11_sentAll_15 (by decide) ?_
  refine lv_iload_n hx hb dX11_sentAll_17 rfl (lv_at hl 0 rfl) ?_
  refine lv_iadd hx hb dX11_sentAll_18 ?_
  refine lv_topi (fun z67 e68 => ?_)
  obtain rfl : z67 = (35 : Int32) := e68.trans (by decide)
  refine va_iald hx hb hK hP 1 1 rfl rfl (vp_in_nI (n := 35) (by decide) (by decide)) dX11_sentAll_19 ?_
  refine lv_topi (fun z69 e70 => ?_)
  obtain rfl : z69 = (0 : Int32) := e70.trans (by decide)
  refine lv_iadd hx hb dX11_sentAll_20 ?_
  refine lv_topi (fun z71 e72 => ?_)
  obtain rfl : z71 = (0 : Int32) := e72.trans (by decide)
  refine lv_istore_n (lv' := [(1, .int 0), (2, .int 11), (0, .ref m0)]) hx hb dX11_sentAll_21 rfl hl (by decide) rfl (fun ls hl => ?_)
  refine lv_iinc (v := 12) (lv' := [(2, .int 12), (1, .int 0), (0, .ref m0)]) hx hb dX11_sentAll_22 hl (k := 1) rfl (by decide) (by decide) rfl (fun ls hl => ?_)
  refine lv_goto (tgt := 4) hx hb dX11_sentAll_25 (by decide) ?_
  refine lv_iload_n hx hb dX11_sentAll_4 rfl (lv_at hl 0 rfl) ?_
  refine lv_bipush (v := 30) hx hb dX11_sentAll_5 (by decide) ?_
  refine lv_icmp_ge (tgt := 28) hx hb dX11_sentAll_7 (by decide) (fun c9 => absurd c9 (by decide)) (fun _ => ?_)
  refine lv_iload_n hx hb dX11_sentAll_10 rfl (lv_at hl 1 rfl) ?_
  refine lv_aload_n hx hb dX11_sentAll_11 rfl (lv_at hl 2 rfl) ?_
  refine va_get (D := (dC, dI)) (ci := 11) (v := .ref ynow) (C := RX11) (T := TX11) (N := 61) hx hb hts hin11 hown hK hP 0 rfl rfl 12 (by decide) (hts (.fieldLink RX11 60 "PathProberModel" "now" "[I") (List.mem_of_getElem? (i := 1) (by decide +kernel))) (fun _ h9 => h9) rfl dX11_sentAll_12 ?_
  refine lv_bipush (v := 24) hx hb dX11_sentAll_15 (by decide) ?_
  refine lv_iload_n hx hb dX11_sentAll_17 rfl (lv_at hl 0 rfl) ?_
  refine lv_iadd hx hb dX11_sentAll_18 ?_
  refine lv_topi (fun z73 e74 => ?_)
  obtain rfl : z73 = (36 : Int32) := e74.trans (by decide)
  refine va_iald hx hb hK hP 1 1 rfl rfl (vp_in_nI (n := 36) (by decide) (by decide)) dX11_sentAll_19 ?_
  refine lv_topi (fun z75 e76 => ?_)
  obtain rfl : z75 = (0 : Int32) := e76.trans (by decide)
  refine lv_iadd hx hb dX11_sentAll_20 ?_
  refine lv_topi (fun z77 e78 => ?_)
  obtain rfl : z77 = (0 : Int32) := e78.trans (by decide)
  refine lv_istore_n (lv' := [(1, .int 0), (2, .int 12), (0, .ref m0)]) hx hb dX11_sentAll_21 rfl hl (by decide) rfl (fun ls hl => ?_)
  refine lv_iinc (v := 13) (lv' := [(2, .int 13), (1, .int 0), (0, .ref m0)]) hx hb dX11_sentAll_22 hl (k := 1) rfl (by decide) (by decide) rfl (fun ls hl => ?_)
  refine lv_goto (tgt := 4) hx hb dX11_sentAll_25 (by decide) ?_
  refine lv_iload_n hx hb dX11_sentAll_4 rfl (lv_at hl 0 rfl) ?_
  refine lv_bipush (v := 30) hx hb dX11_sentAll_5 (by decide) ?_
  refine lv_icmp_ge (tgt := 28) hx hb dX11_sentAll_7 (by decide) (fun c9 => absurd c9 (by decide)) (fun _ => ?_)
  refine lv_iload_n hx hb dX11_sentAll_10 rfl (lv_at hl 1 rfl) ?_
  refine lv_aload_n hx hb dX11_sentAll_11 rfl (lv_at hl 2 rfl) ?_
  refine va_get (D := (dC, dI)) (ci := 11) (v := .ref ynow) (C := RX11) (T := TX11) (N := 61) hx hb hts hin11 hown hK hP 0 rfl rfl 12 (by decide) (hts (.fieldLink RX11 60 "PathProberModel" "now" "[I") (List.mem_of_getElem? (i := 1) (by decide +kernel))) (fun _ h9 => h9) rfl dX11_sentAll_12 ?_
  refine lv_bipush (v := 24) hx hb dX11_sentAll_15 (by decide) ?_
  refine lv_iload_n hx hb dX11_sentAll_17 rfl (lv_at hl 0 rfl) ?_
  refine lv_iadd hx hb dX11_sentAll_18 ?_
  refine lv_topi (fun z79 e80 => ?_)
  obtain rfl : z79 = (37 : Int32) := e80.trans (by decide)
  refine va_iald hx hb hK hP 1 1 rfl rfl (vp_in_nI (n := 37) (by decide) (by decide)) dX11_sentAll_19 ?_
  refine lv_topi (fun z81 e82 => ?_)
  obtain rfl : z81 = (0 : Int32) := e82.trans (by decide)
  refine lv_iadd hx hb dX11_sentAll_20 ?_
  refine lv_topi (fun z83 e84 => ?_)
  obtain rfl : z83 = (0 : Int32) := e84.trans (by decide)
  refine lv_istore_n (lv' := [(1, .int 0), (2, .int 13), (0, .ref m0)]) hx hb dX11_sentAll_21 rfl hl (by decide) rfl (fun ls hl => ?_)
  refine lv_iinc (v := 14) (lv' := [(2, .int 14), (1, .int 0), (0, .ref m0)]) hx hb dX11_sentAll_22 hl (k := 1) rfl (by decide) (by decide) rfl (fun ls hl => ?_)
  refine lv_goto (tgt := 4) hx hb dX11_sentAll_25 (by decide) ?_
  refine lv_iload_n hx hb dX11_sentAll_4 rfl (lv_at hl 0 rfl) ?_
  refine lv_bipush (v := 30) hx hb dX11_sentAll_5 (by decide) ?_
  refine lv_icmp_ge (tgt := 28) hx hb dX11_sentAll_7 (by decide) (fun c9 => absurd c9 (by decide)) (fun _ => ?_)
  refine lv_iload_n hx hb dX11_sentAll_10 rfl (lv_at hl 1 rfl) ?_
  refine lv_aload_n hx hb dX11_sentAll_11 rfl (lv_at hl 2 rfl) ?_
  refine va_get (D := (dC, dI)) (ci := 11) (v := .ref ynow) (C := RX11) (T := TX11) (N := 61) hx hb hts hin11 hown hK hP 0 rfl rfl 12 (by decide) (hts (.fieldLink RX11 60 "PathProberModel" "now" "[I") (List.mem_of_getElem? (i := 1) (by decide +kernel))) (fun _ h9 => h9) rfl dX11_sentAll_12 ?_
  refine lv_bipush (v := 24) hx hb dX11_sentAll_15 (by decide) ?_
  refine lv_iload_n hx hb dX11_sentAll_17 rfl (lv_at hl 0 rfl) ?_
  refine lv_iadd hx hb dX11_sentAll_18 ?_
  refine lv_topi (fun z85 e86 => ?_)
  obtain rfl : z85 = (38 : Int32) := e86.trans (by decide)
  refine va_iald hx hb hK hP 1 1 rfl rfl (vp_in_nI (n := 38) (by decide) (by decide)) dX11_sentAll_19 ?_
  refine lv_topi (fun z87 e88 => ?_)
  obtain rfl : z87 = (0 : Int32) := e88.trans (by decide)
  refine lv_iadd hx hb dX11_sentAll_20 ?_
  refine lv_topi (fun z89 e90 => ?_)
  obtain rfl : z89 = (0 : Int32) := e90.trans (by decide)
  refine lv_istore_n (lv' := [(1, .int 0), (2, .int 14), (0, .ref m0)]) hx hb dX11_sentAll_21 rfl hl (by decide) rfl (fun ls hl => ?_)
  refine lv_iinc (v := 15) (lv' := [(2, .int 15), (1, .int 0), (0, .ref m0)]) hx hb dX11_sentAll_22 hl (k := 1) rfl (by decide) (by decide) rfl (fun ls hl => ?_)
  refine lv_goto (tgt := 4) hx hb dX11_sentAll_25 (by decide) ?_
  refine lv_iload_n hx hb dX11_sentAll_4 rfl (lv_at hl 0 rfl) ?_
  refine lv_bipush (v := 30) hx hb dX11_sentAll_5 (by decide) ?_
  refine lv_icmp_ge (tgt := 28) hx hb dX11_sentAll_7 (by decide) (fun c9 => absurd c9 (by decide)) (fun _ => ?_)
  refine lv_iload_n hx hb dX11_sentAll_10 rfl (lv_at hl 1 rfl) ?_
  refine lv_aload_n hx hb dX11_sentAll_11 rfl (lv_at hl 2 rfl) ?_
  refine va_get (D := (dC, dI)) (ci := 11) (v := .ref ynow) (C := RX11) (T := TX11) (N := 61) hx hb hts hin11 hown hK hP 0 rfl rfl 12 (by decide) (hts (.fieldLink RX11 60 "PathProberModel" "now" "[I") (List.mem_of_getElem? (i := 1) (by decide +kernel))) (fun _ h9 => h9) rfl dX11_sentAll_12 ?_
  refine lv_bipush (v := 24) hx hb dX11_sentAll_15 (by decide) ?_
  refine lv_iload_n hx hb dX11_sentAll_17 rfl (lv_at hl 0 rfl) ?_
  refine lv_iadd hx hb dX11_sentAll_18 ?_
  refine lv_topi (fun z91 e92 => ?_)
  obtain rfl : z91 = (39 : Int32) := e92.trans (by decide)
  refine va_iald hx hb hK hP 1 1 rfl rfl (vp_in_nI (n := 39) (by decide) (by decide)) dX11_sentAll_19 ?_
  refine lv_topi (fun z93 e94 => ?_)
  obtain rfl : z93 = (0 : Int32) := e94.trans (by decide)
  refine lv_iadd hx hb dX11_sentAll_20 ?_
  refine lv_topi (fun z95 e96 => ?_)
  obtain rfl : z95 = (0 : Int32) := e96.trans (by decide)
  refine lv_istore_n (lv' := [(1, .int 0), (2, .int 15), (0, .ref m0)]) hx hb dX11_sentAll_21 rfl hl (by decide) rfl (fun ls hl => ?_)
  refine lv_iinc (v := 16) (lv' := [(2, .int 16), (1, .int 0), (0, .ref m0)]) hx hb dX11_sentAll_22 hl (k := 1) rfl (by decide) (by decide) rfl (fun ls hl => ?_)
  refine lv_goto (tgt := 4) hx hb dX11_sentAll_25 (by decide) ?_
  refine lv_iload_n hx hb dX11_sentAll_4 rfl (lv_at hl 0 rfl) ?_
  refine lv_bipush (v := 30) hx hb dX11_sentAll_5 (by decide) ?_
  refine lv_icmp_ge (tgt := 28) hx hb dX11_sentAll_7 (by decide) (fun c9 => absurd c9 (by decide)) (fun _ => ?_)
  refine lv_iload_n hx hb dX11_sentAll_10 rfl (lv_at hl 1 rfl) ?_
  refine lv_aload_n hx hb dX11_sentAll_11 rfl (lv_at hl 2 rfl) ?_
  refine va_get (D := (dC, dI)) (ci := 11) (v := .ref ynow) (C := RX11) (T := TX11) (N := 61) hx hb hts hin11 hown hK hP 0 rfl rfl 12 (by decide) (hts (.fieldLink RX11 60 "PathProberModel" "now" "[I") (List.mem_of_getElem? (i := 1) (by decide +kernel))) (fun _ h9 => h9) rfl dX11_sentAll_12 ?_
  refine lv_bipush (v := 24) hx hb dX11_sentAll_15 (by decide) ?_
  refine lv_iload_n hx hb dX11_sentAll_17 rfl (lv_at hl 0 rfl) ?_
  refine lv_iadd hx hb dX11_sentAll_18 ?_
  refine lv_topi (fun z97 e98 => ?_)
  obtain rfl : z97 = (40 : Int32) := e98.trans (by decide)
  refine va_iald hx hb hK hP 1 1 rfl rfl (vp_in_nI (n := 40) (by decide) (by decide)) dX11_sentAll_19 ?_
  refine lv_topi (fun z99 e100 => ?_)
  obtain rfl : z99 = (0 : Int32) := e100.trans (by decide)
  refine lv_iadd hx hb dX11_sentAll_20 ?_
  refine lv_topi (fun z101 e102 => ?_)
  obtain rfl : z101 = (0 : Int32) := e102.trans (by decide)
  refine lv_istore_n (lv' := [(1, .int 0), (2, .int 16), (0, .ref m0)]) hx hb dX11_sentAll_21 rfl hl (by decide) rfl (fun ls hl => ?_)
  refine lv_iinc (v := 17) (lv' := [(2, .int 17), (1, .int 0), (0, .ref m0)]) hx hb dX11_sentAll_22 hl (k := 1) rfl (by decide) (by decide) rfl (fun ls hl => ?_)
  refine lv_goto (tgt := 4) hx hb dX11_sentAll_25 (by decide) ?_
  refine lv_iload_n hx hb dX11_sentAll_4 rfl (lv_at hl 0 rfl) ?_
  refine lv_bipush (v := 30) hx hb dX11_sentAll_5 (by decide) ?_
  refine lv_icmp_ge (tgt := 28) hx hb dX11_sentAll_7 (by decide) (fun c9 => absurd c9 (by decide)) (fun _ => ?_)
  refine lv_iload_n hx hb dX11_sentAll_10 rfl (lv_at hl 1 rfl) ?_
  refine lv_aload_n hx hb dX11_sentAll_11 rfl (lv_at hl 2 rfl) ?_
  refine va_get (D := (dC, dI)) (ci := 11) (v := .ref ynow) (C := RX11) (T := TX11) (N := 61) hx hb hts hin11 hown hK hP 0 rfl rfl 12 (by decide) (hts (.fieldLink RX11 60 "PathProberModel" "now" "[I") (List.mem_of_getElem? (i := 1) (by decide +kernel))) (fun _ h9 => h9) rfl dX11_sentAll_12 ?_
  refine lv_bipush (v := 24) hx hb dX11_sentAll_15 (by decide) ?_
  refine lv_iload_n hx hb dX11_sentAll_17 rfl (lv_at hl 0 rfl) ?_
  refine lv_iadd hx hb dX11_sentAll_18 ?_
  refine lv_topi (fun z103 e104 => ?_)
  obtain rfl : z103 = (41 : Int32) := e104.trans (by decide)
  refine va_iald hx hb hK hP 1 1 rfl rfl (vp_in_nI (n := 41) (by decide) (by decide)) dX11_sentAll_19 ?_
  refine lv_topi (fun z105 e106 => ?_)
  obtain rfl : z105 = (0 : Int32) := e106.trans (by decide)
  refine lv_iadd hx hb dX11_sentAll_20 ?_
  refine lv_topi (fun z107 e108 => ?_)
  obtain rfl : z107 = (0 : Int32) := e108.trans (by decide)
  refine lv_istore_n (lv' := [(1, .int 0), (2, .int 17), (0, .ref m0)]) hx hb dX11_sentAll_21 rfl hl (by decide) rfl (fun ls hl => ?_)
  refine lv_iinc (v := 18) (lv' := [(2, .int 18), (1, .int 0), (0, .ref m0)]) hx hb dX11_sentAll_22 hl (k := 1) rfl (by decide) (by decide) rfl (fun ls hl => ?_)
  refine lv_goto (tgt := 4) hx hb dX11_sentAll_25 (by decide) ?_
  refine lv_iload_n hx hb dX11_sentAll_4 rfl (lv_at hl 0 rfl) ?_
  refine lv_bipush (v := 30) hx hb dX11_sentAll_5 (by decide) ?_
  refine lv_icmp_ge (tgt := 28) hx hb dX11_sentAll_7 (by decide) (fun c9 => absurd c9 (by decide)) (fun _ => ?_)
  refine lv_iload_n hx hb dX11_sentAll_10 rfl (lv_at hl 1 rfl) ?_
  refine lv_aload_n hx hb dX11_sentAll_11 rfl (lv_at hl 2 rfl) ?_
  refine va_get (D := (dC, dI)) (ci := 11) (v := .ref ynow) (C := RX11) (T := TX11) (N := 61) hx hb hts hin11 hown hK hP 0 rfl rfl 12 (by decide) (hts (.fieldLink RX11 60 "PathProberModel" "now" "[I") (List.mem_of_getElem? (i := 1) (by decide +kernel))) (fun _ h9 => h9) rfl dX11_sentAll_12 ?_
  refine lv_bipush (v := 24) hx hb dX11_sentAll_15 (by decide) ?_
  refine lv_iload_n hx hb dX11_sentAll_17 rfl (lv_at hl 0 rfl) ?_
  refine lv_iadd hx hb dX11_sentAll_18 ?_
  refine lv_topi (fun z109 e110 => ?_)
  obtain rfl : z109 = (42 : Int32) := e110.trans (by decide)
  refine va_iald hx hb hK hP 1 1 rfl rfl (vp_in_nI (n := 42) (by decide) (by decide)) dX11_sentAll_19 ?_
  refine lv_topi (fun z111 e112 => ?_)
  obtain rfl : z111 = (0 : Int32) := e112.trans (by decide)
  refine lv_iadd hx hb dX11_sentAll_20 ?_
  refine lv_topi (fun z113 e114 => ?_)
  obtain rfl : z113 = (0 : Int32) := e114.trans (by decide)
  refine lv_istore_n (lv' := [(1, .int 0), (2, .int 18), (0, .ref m0)]) hx hb dX11_sentAll_21 rfl hl (by decide) rfl (fun ls hl => ?_)
  refine lv_iinc (v := 19) (lv' := [(2, .int 19), (1, .int 0), (0, .ref m0)]) hx hb dX11_sentAll_22 hl (k := 1) rfl (by decide) (by decide) rfl (fun ls hl => ?_)
  refine lv_goto (tgt := 4) hx hb dX11_sentAll_25 (by decide) ?_
  refine lv_iload_n hx hb dX11_sentAll_4 rfl (lv_at hl 0 rfl) ?_
  refine lv_bipush (v := 30) hx hb dX11_sentAll_5 (by decide) ?_
  refine lv_icmp_ge (tgt := 28) hx hb dX11_sentAll_7 (by decide) (fun c9 => absurd c9 (by decide)) (fun _ => ?_)
  refine lv_iload_n hx hb dX11_sentAll_10 rfl (lv_at hl 1 rfl) ?_
  refine lv_aload_n hx hb dX11_sentAll_11 rfl (lv_at hl 2 rfl) ?_
  refine va_get (D := (dC, dI)) (ci := 11) (v := .ref ynow) (C := RX11) (T := TX11) (N := 61) hx hb hts hin11 hown hK hP 0 rfl rfl 12 (by decide) (hts (.fieldLink RX11 60 "PathProberModel" "now" "[I") (List.mem_of_getElem? (i := 1) (by decide +kernel))) (fun _ h9 => h9) rfl dX11_sentAll_12 ?_
  refine lv_bipush (v := 24) hx hb dX11_sentAll_15 (by decide) ?_
  refine lv_iload_n hx hb dX11_sentAll_17 rfl (lv_at hl 0 rfl) ?_
  refine lv_iadd hx hb dX11_sentAll_18 ?_
  refine lv_topi (fun z115 e116 => ?_)
  obtain rfl : z115 = (43 : Int32) := e116.trans (by decide)
  refine va_iald hx hb hK hP 1 1 rfl rfl (vp_in_nI (n := 43) (by decide) (by decide)) dX11_sentAll_19 ?_
  refine lv_topi (fun z117 e118 => ?_)
  obtain rfl : z117 = (0 : Int32) := e118.trans (by decide)
  refine lv_iadd hx hb dX11_sentAll_20 ?_
  refine lv_topi (fun z119 e120 => ?_)
  obtain rfl : z119 = (0 : Int32) := e120.trans (by decide)
  refine lv_istore_n (lv' := [(1, .int 0), (2, .int 19), (0, .ref m0)]) hx hb dX11_sentAll_21 rfl hl (by decide) rfl (fun ls hl => ?_)
  refine lv_iinc (v := 20) (lv' := [(2, .int 20), (1, .int 0), (0, .ref m0)]) hx hb dX11_sentAll_22 hl (k := 1) rfl (by decide) (by decide) rfl (fun ls hl => ?_)
  refine lv_goto (tgt := 4) hx hb dX11_sentAll_25 (by decide) ?_
  refine lv_iload_n hx hb dX11_sentAll_4 rfl (lv_at hl 0 rfl) ?_
  refine lv_bipush (v := 30) hx hb dX11_sentAll_5 (by decide) ?_
  refine lv_icmp_ge (tgt := 28) hx hb dX11_sentAll_7 (by decide) (fun c9 => absurd c9 (by decide)) (fun _ => ?_)
  refine lv_iload_n hx hb dX11_sentAll_10 rfl (lv_at hl 1 rfl) ?_
  refine lv_aload_n hx hb dX11_sentAll_11 rfl (lv_at hl 2 rfl) ?_
  refine va_get (D := (dC, dI)) (ci := 11) (v := .ref ynow) (C := RX11) (T := TX11) (N := 61) hx hb hts hin11 hown hK hP 0 rfl rfl 12 (by decide) (hts (.fieldLink RX11 60 "PathProberModel" "now" "[I") (List.mem_of_getElem? (i := 1) (by decide +kernel))) (fun _ h9 => h9) rfl dX11_sentAll_12 ?_
  refine lv_bipush (v := 24) hx hb dX11_sentAll_15 (by decide) ?_
  refine lv_iload_n hx hb dX11_sentAll_17 rfl (lv_at hl 0 rfl) ?_
  refine lv_iadd hx hb dX11_sentAll_18 ?_
  refine lv_topi (fun z121 e122 => ?_)
  obtain rfl : z121 = (44 : Int32) := e122.trans (by decide)
  refine va_iald hx hb hK hP 1 1 rfl rfl (vp_in_nI (n := 44) (by decide) (by decide)) dX11_sentAll_19 ?_
  refine lv_topi (fun z123 e124 => ?_)
  obtain rfl : z123 = (0 : Int32) := e124.trans (by decide)
  refine lv_iadd hx hb dX11_sentAll_20 ?_
  refine lv_topi (fun z125 e126 => ?_)
  obtain rfl : z125 = (0 : Int32) := e126.trans (by decide)
  refine lv_istore_n (lv' := [(1, .int 0), (2, .int 20), (0, .ref m0)]) hx hb dX11_sentAll_21 rfl hl (by decide) rfl (fun ls hl => ?_)
  refine lv_iinc (v := 21) (lv' := [(2, .int 21), (1, .int 0), (0, .ref m0)]) hx hb dX11_sentAll_22 hl (k := 1) rfl (by decide) (by decide) rfl (fun ls hl => ?_)
  refine lv_goto (tgt := 4) hx hb dX11_sentAll_25 (by decide) ?_
  refine lv_iload_n hx hb dX11_sentAll_4 rfl (lv_at hl 0 rfl) ?_
  refine lv_bipush (v := 30) hx hb dX11_sentAll_5 (by decide) ?_
  refine lv_icmp_ge (tgt := 28) hx hb dX11_sentAll_7 (by decide) (fun c9 => absurd c9 (by decide)) (fun _ => ?_)
  refine lv_iload_n hx hb dX11_sentAll_10 rfl (lv_at hl 1 rfl) ?_
  refine lv_aload_n hx hb dX11_sentAll_11 rfl (lv_at hl 2 rfl) ?_
  refine va_get (D := (dC, dI)) (ci := 11) (v := .ref ynow) (C := RX11) (T := TX11) (N := 61) hx hb hts hin11 hown hK hP 0 rfl rfl 12 (by decide) (hts (.fieldLink RX11 60 "PathProberModel" "now" "[I") (List.mem_of_getElem? (i := 1) (by decide +kernel))) (fun _ h9 => h9) rfl dX11_sentAll_12 ?_
  refine lv_bipush (v := 24) hx hb dX11_sentAll_15 (by decide) ?_
  refine lv_iload_n hx hb dX11_sentAll_17 rfl (lv_at hl 0 rfl) ?_
  refine lv_iadd hx hb dX11_sentAll_18 ?_
  refine lv_topi (fun z127 e128 => ?_)
  obtain rfl : z127 = (45 : Int32) := e128.trans (by decide)
  refine va_iald hx hb hK hP 1 1 rfl rfl (vp_in_nI (n := 45) (by decide) (by decide)) dX11_sentAll_19 ?_
  refine lv_topi (fun z129 e130 => ?_)
  obtain rfl : z129 = (0 : Int32) := e130.trans (by decide)
  refine lv_iadd hx hb dX11_sentAll_20 ?_
  refine lv_topi (fun z131 e132 => ?_)
  obtain rfl : z131 = (0 : Int32) := e132.trans (by decide)
  refine lv_istore_n (lv' := [(1, .int 0), (2, .int 21), (0, .ref m0)]) hx hb dX11_sentAll_21 rfl hl (by decide) rfl (fun ls hl => ?_)
  refine lv_iinc (v := 22) (lv' := [(2, .int 22), (1, .int 0), (0, .ref m0)]) hx hb dX11_sentAll_22 hl (k := 1) rfl (by decide) (by decide) rfl (fun ls hl => ?_)
  refine lv_goto (tgt := 4) hx hb dX11_sentAll_25 (by decide) ?_
  refine lv_iload_n hx hb dX11_sentAll_4 rfl (lv_at hl 0 rfl) ?_
  refine lv_bipush (v := 30) hx hb dX11_sentAll_5 (by decide) ?_
  refine lv_icmp_ge (tgt := 28) hx hb dX11_sentAll_7 (by decide) (fun c9 => absurd c9 (by decide)) (fun _ => ?_)
  refine lv_iload_n hx hb dX11_sentAll_10 rfl (lv_at hl 1 rfl) ?_
  refine lv_aload_n hx hb dX11_sentAll_11 rfl (lv_at hl 2 rfl) ?_
  refine va_get (D := (dC, dI)) (ci := 11) (v := .ref ynow) (C := RX11) (T := TX11) (N := 61) hx hb hts hin11 hown hK hP 0 rfl rfl 12 (by decide) (hts (.fieldLink RX11 60 "PathProberModel" "now" "[I") (List.mem_of_getElem? (i := 1) (by decide +kernel))) (fun _ h9 => h9) rfl dX11_sentAll_12 ?_
  refine lv_bipush (v := 24) hx hb dX11_sentAll_15 (by decide) ?_
  refine lv_iload_n hx hb dX11_sentAll_17 rfl (lv_at hl 0 rfl) ?_
  refine lv_iadd hx hb dX11_sentAll_18 ?_
  refine lv_topi (fun z133 e134 => ?_)
  obtain rfl : z133 = (46 : Int32) := e134.trans (by decide)
  refine va_iald hx hb hK hP 1 1 rfl rfl (vp_in_nI (n := 46) (by decide) (by decide)) dX11_sentAll_19 ?_
  refine lv_topi (fun z135 e136 => ?_)
  obtain rfl : z135 = (0 : Int32) := e136.trans (by decide)
  refine lv_iadd hx hb dX11_sentAll_20 ?_
  refine lv_topi (fun z137 e138 => ?_)
  obtain rfl : z137 = (0 : Int32) := e138.trans (by decide)
  refine lv_istore_n (lv' := [(1, .int 0), (2, .int 22), (0, .ref m0)]) hx hb dX11_sentAll_21 rfl hl (by decide) rfl (fun ls hl => ?_)
  refine lv_iinc (v := 23) (lv' := [(2, .int 23), (1, .int 0), (0, .ref m0)]) hx hb dX11_sentAll_22 hl (k := 1) rfl (by decide) (by decide) rfl (fun ls hl => ?_)
  refine lv_goto (tgt := 4) hx hb dX11_sentAll_25 (by decide) ?_
  refine lv_iload_n hx hb dX11_sentAll_4 rfl (lv_at hl 0 rfl) ?_
  refine lv_bipush (v := 30) hx hb dX11_sentAll_5 (by decide) ?_
  refine lv_icmp_ge (tgt := 28) hx hb dX11_sentAll_7 (by decide) (fun c9 => absurd c9 (by decide)) (fun _ => ?_)
  refine lv_iload_n hx hb dX11_sentAll_10 rfl (lv_at hl 1 rfl) ?_
  refine lv_aload_n hx hb dX11_sentAll_11 rfl (lv_at hl 2 rfl) ?_
  refine va_get (D := (dC, dI)) (ci := 11) (v := .ref ynow) (C := RX11) (T := TX11) (N := 61) hx hb hts hin11 hown hK hP 0 rfl rfl 12 (by decide) (hts (.fieldLink RX11 60 "PathProberModel" "now" "[I") (List.mem_of_getElem? (i := 1) (by decide +kernel))) (fun _ h9 => h9) rfl dX11_sentAll_12 ?_
  refine lv_bipush (v := 24) hx hb dX11_sentAll_15 (by decide) ?_
  refine lv_iload_n hx hb dX11_sentAll_17 rfl (lv_at hl 0 rfl) ?_
  refine lv_iadd hx hb dX11_sentAll_18 ?_
  refine lv_topi (fun z139 e140 => ?_)
  obtain rfl : z139 = (47 : Int32) := e140.trans (by decide)
  refine va_iald hx hb hK hP 1 1 rfl rfl (vp_in_nI (n := 47) (by decide) (by decide)) dX11_sentAll_19 ?_
  refine lv_topi (fun z141 e142 => ?_)
  obtain rfl : z141 = (0 : Int32) := e142.trans (by decide)
  refine lv_iadd hx hb dX11_sentAll_20 ?_
  refine lv_topi (fun z143 e144 => ?_)
  obtain rfl : z143 = (0 : Int32) := e144.trans (by decide)
  refine lv_istore_n (lv' := [(1, .int 0), (2, .int 23), (0, .ref m0)]) hx hb dX11_sentAll_21 rfl hl (by decide) rfl (fun ls hl => ?_)
  refine lv_iinc (v := 24) (lv' := [(2, .int 24), (1, .int 0), (0, .ref m0)]) hx hb dX11_sentAll_22 hl (k := 1) rfl (by decide) (by decide) rfl (fun ls hl => ?_)
  refine lv_goto (tgt := 4) hx hb dX11_sentAll_25 (by decide) ?_
  refine lv_iload_n hx hb dX11_sentAll_4 rfl (lv_at hl 0 rfl) ?_
  refine lv_bipush (v := 30) hx hb dX11_sentAll_5 (by decide) ?_
  refine lv_icmp_ge (tgt := 28) hx hb dX11_sentAll_7 (by decide) (fun c9 => absurd c9 (by decide)) (fun _ => ?_)
  refine lv_iload_n hx hb dX11_sentAll_10 rfl (lv_at hl 1 rfl) ?_
  refine lv_aload_n hx hb dX11_sentAll_11 rfl (lv_at hl 2 rfl) ?_
  refine va_get (D := (dC, dI)) (ci := 11) (v := .ref ynow) (C := RX11) (T := TX11) (N := 61) hx hb hts hin11 hown hK hP 0 rfl rfl 12 (by decide) (hts (.fieldLink RX11 60 "PathProberModel" "now" "[I") (List.mem_of_getElem? (i := 1) (by decide +kernel))) (fun _ h9 => h9) rfl dX11_sentAll_12 ?_
  refine lv_bipush (v := 24) hx hb dX11_sentAll_15 (by decide) ?_
  refine lv_iload_n hx hb dX11_sentAll_17 rfl (lv_at hl 0 rfl) ?_
  refine lv_iadd hx hb dX11_sentAll_18 ?_
  refine lv_topi (fun z145 e146 => ?_)
  obtain rfl : z145 = (48 : Int32) := e146.trans (by decide)
  refine va_iald hx hb hK hP 1 1 rfl rfl (vp_in_nI (n := 48) (by decide) (by decide)) dX11_sentAll_19 ?_
  refine lv_topi (fun z147 e148 => ?_)
  obtain rfl : z147 = (0 : Int32) := e148.trans (by decide)
  refine lv_iadd hx hb dX11_sentAll_20 ?_
  refine lv_topi (fun z149 e150 => ?_)
  obtain rfl : z149 = (0 : Int32) := e150.trans (by decide)
  refine lv_istore_n (lv' := [(1, .int 0), (2, .int 24), (0, .ref m0)]) hx hb dX11_sentAll_21 rfl hl (by decide) rfl (fun ls hl => ?_)
  refine lv_iinc (v := 25) (lv' := [(2, .int 25), (1, .int 0), (0, .ref m0)]) hx hb dX11_sentAll_22 hl (k := 1) rfl (by decide) (by decide) rfl (fun ls hl => ?_)
  refine lv_goto (tgt := 4) hx hb dX11_sentAll_25 (by decide) ?_
  refine lv_iload_n hx hb dX11_sentAll_4 rfl (lv_at hl 0 rfl) ?_
  refine lv_bipush (v := 30) hx hb dX11_sentAll_5 (by decide) ?_
  refine lv_icmp_ge (tgt := 28) hx hb dX11_sentAll_7 (by decide) (fun c9 => absurd c9 (by decide)) (fun _ => ?_)
  refine lv_iload_n hx hb dX11_sentAll_10 rfl (lv_at hl 1 rfl) ?_
  refine lv_aload_n hx hb dX11_sentAll_11 rfl (lv_at hl 2 rfl) ?_
  refine va_get (D := (dC, dI)) (ci := 11) (v := .ref ynow) (C := RX11) (T := TX11) (N := 61) hx hb hts hin11 hown hK hP 0 rfl rfl 12 (by decide) (hts (.fieldLink RX11 60 "PathProberModel" "now" "[I") (List.mem_of_getElem? (i := 1) (by decide +kernel))) (fun _ h9 => h9) rfl dX11_sentAll_12 ?_
  refine lv_bipush (v := 24) hx hb dX11_sentAll_15 (by decide) ?_
  refine lv_iload_n hx hb dX11_sentAll_17 rfl (lv_at hl 0 rfl) ?_
  refine lv_iadd hx hb dX11_sentAll_18 ?_
  refine lv_topi (fun z151 e152 => ?_)
  obtain rfl : z151 = (49 : Int32) := e152.trans (by decide)
  refine va_iald hx hb hK hP 1 1 rfl rfl (vp_in_nI (n := 49) (by decide) (by decide)) dX11_sentAll_19 ?_
  refine lv_topi (fun z153 e154 => ?_)
  obtain rfl : z153 = (0 : Int32) := e154.trans (by decide)
  refine lv_iadd hx hb dX11_sentAll_20 ?_
  refine lv_topi (fun z155 e156 => ?_)
  obtain rfl : z155 = (0 : Int32) := e156.trans (by decide)
  refine lv_istore_n (lv' := [(1, .int 0), (2, .int 25), (0, .ref m0)]) hx hb dX11_sentAll_21 rfl hl (by decide) rfl (fun ls hl => ?_)
  refine lv_iinc (v := 26) (lv' := [(2, .int 26), (1, .int 0), (0, .ref m0)]) hx hb dX11_sentAll_22 hl (k := 1) rfl (by decide) (by decide) rfl (fun ls hl => ?_)
  refine lv_goto (tgt := 4) hx hb dX11_sentAll_25 (by decide) ?_
  refine lv_iload_n hx hb dX11_sentAll_4 rfl (lv_at hl 0 rfl) ?_
  refine lv_bipush (v := 30) hx hb dX11_sentAll_5 (by decide) ?_
  refine lv_icmp_ge (tgt := 28) hx hb dX11_sentAll_7 (by decide) (fun c9 => absurd c9 (by decide)) (fun _ => ?_)
  refine lv_iload_n hx hb dX11_sentAll_10 rfl (lv_at hl 1 rfl) ?_
  refine lv_aload_n hx hb dX11_sentAll_11 rfl (lv_at hl 2 rfl) ?_
  refine va_get (D := (dC, dI)) (ci := 11) (v := .ref ynow) (C := RX11) (T := TX11) (N := 61) hx hb hts hin11 hown hK hP 0 rfl rfl 12 (by decide) (hts (.fieldLink RX11 60 "PathProberModel" "now" "[I") (List.mem_of_getElem? (i := 1) (by decide +kernel))) (fun _ h9 => h9) rfl dX11_sentAll_12 ?_
  refine lv_bipush (v := 24) hx hb dX11_sentAll_15 (by decide) ?_
  refine lv_iload_n hx hb dX11_sentAll_17 rfl (lv_at hl 0 rfl) ?_
  refine lv_iadd hx hb dX11_sentAll_18 ?_
  refine lv_topi (fun z157 e158 => ?_)
  obtain rfl : z157 = (50 : Int32) := e158.trans (by decide)
  refine va_iald hx hb hK hP 1 1 rfl rfl (vp_in_nI (n := 50) (by decide) (by decide)) dX11_sentAll_19 ?_
  refine lv_topi (fun z159 e160 => ?_)
  obtain rfl : z159 = (0 : Int32) := e160.trans (by decide)
  refine lv_iadd hx hb dX11_sentAll_20 ?_
  refine lv_topi (fun z161 e162 => ?_)
  obtain rfl : z161 = (0 : Int32) := e162.trans (by decide)
  refine lv_istore_n (lv' := [(1, .int 0), (2, .int 26), (0, .ref m0)]) hx hb dX11_sentAll_21 rfl hl (by decide) rfl (fun ls hl => ?_)
  refine lv_iinc (v := 27) (lv' := [(2, .int 27), (1, .int 0), (0, .ref m0)]) hx hb dX11_sentAll_22 hl (k := 1) rfl (by decide) (by decide) rfl (fun ls hl => ?_)
  refine lv_goto (tgt := 4) hx hb dX11_sentAll_25 (by decide) ?_
  refine lv_iload_n hx hb dX11_sentAll_4 rfl (lv_at hl 0 rfl) ?_
  refine lv_bipush (v := 30) hx hb dX11_sentAll_5 (by decide) ?_
  refine lv_icmp_ge (tgt := 28) hx hb dX11_sentAll_7 (by decide) (fun c9 => absurd c9 (by decide)) (fun _ => ?_)
  refine lv_iload_n hx hb dX11_sentAll_10 rfl (lv_at hl 1 rfl) ?_
  refine lv_aload_n hx hb dX11_sentAll_11 rfl (lv_at hl 2 rfl) ?_
  refine va_get (D := (dC, dI)) (ci := 11) (v := .ref ynow) (C := RX11) (T := TX11) (N := 61) hx hb hts hin11 hown hK hP 0 rfl rfl 12 (by decide) (hts (.fieldLink RX11 60 "PathProberModel" "now" "[I") (List.mem_of_getElem? (i := 1) (by decide +kernel))) (fun _ h9 => h9) rfl dX11_sentAll_12 ?_
  refine lv_bipush (v := 24) hx hb dX11_sentAll_15 (by decide) ?_
  refine lv_iload_n hx hb dX11_sentAll_17 rfl (lv_at hl 0 rfl) ?_
  refine lv_iadd hx hb dX11_sentAll_18 ?_
  refine lv_topi (fun z163 e164 => ?_)
  obtain rfl : z163 = (51 : Int32) := e164.trans (by decide)
  refine va_iald hx hb hK hP 1 1 rfl rfl (vp_in_nI (n := 51) (by decide) (by decide)) dX11_sentAll_19 ?_
  refine lv_topi (fun z165 e166 => ?_)
  obtain rfl : z165 = (0 : Int32) := e166.trans (by decide)
  refine lv_iadd hx hb dX11_sentAll_20 ?_
  refine lv_topi (fun z167 e168 => ?_)
  obtain rfl : z167 = (0 : Int32) := e168.trans (by decide)
  refine lv_istore_n (lv' := [(1, .int 0), (2, .int 27), (0, .ref m0)]) hx hb dX11_sentAll_21 rfl hl (by decide) rfl (fun ls hl => ?_)
  refine lv_iinc (v := 28) (lv' := [(2, .int 28), (1, .int 0), (0, .ref m0)]) hx hb dX11_sentAll_22 hl (k := 1) rfl (by decide) (by decide) rfl (fun ls hl => ?_)
  refine lv_goto (tgt := 4) hx hb dX11_sentAll_25 (by decide) ?_
  refine lv_iload_n hx hb dX11_sentAll_4 rfl (lv_at hl 0 rfl) ?_
  refine lv_bipush (v := 30) hx hb dX11_sentAll_5 (by decide) ?_
  refine lv_icmp_ge (tgt := 28) hx hb dX11_sentAll_7 (by decide) (fun c9 => absurd c9 (by decide)) (fun _ => ?_)
  refine lv_iload_n hx hb dX11_sentAll_10 rfl (lv_at hl 1 rfl) ?_
  refine lv_aload_n hx hb dX11_sentAll_11 rfl (lv_at hl 2 rfl) ?_
  refine va_get (D := (dC, dI)) (ci := 11) (v := .ref ynow) (C := RX11) (T := TX11) (N := 61) hx hb hts hin11 hown hK hP 0 rfl rfl 12 (by decide) (hts (.fieldLink RX11 60 "PathProberModel" "now" "[I") (List.mem_of_getElem? (i := 1) (by decide +kernel))) (fun _ h9 => h9) rfl dX11_sentAll_12 ?_
  refine lv_bipush (v := 24) hx hb dX11_sentAll_15 (by decide) ?_
  refine lv_iload_n hx hb dX11_sentAll_17 rfl (lv_at hl 0 rfl) ?_
  refine lv_iadd hx hb dX11_sentAll_18 ?_
  refine lv_topi (fun z169 e170 => ?_)
  obtain rfl : z169 = (52 : Int32) := e170.trans (by decide)
  refine va_iald hx hb hK hP 1 1 rfl rfl (vp_in_nI (n := 52) (by decide) (by decide)) dX11_sentAll_19 ?_
  refine lv_topi (fun z171 e172 => ?_)
  obtain rfl : z171 = (0 : Int32) := e172.trans (by decide)
  refine lv_iadd hx hb dX11_sentAll_20 ?_
  refine lv_topi (fun z173 e174 => ?_)
  obtain rfl : z173 = (0 : Int32) := e174.trans (by decide)
  refine lv_istore_n (lv' := [(1, .int 0), (2, .int 28), (0, .ref m0)]) hx hb dX11_sentAll_21 rfl hl (by decide) rfl (fun ls hl => ?_)
  refine lv_iinc (v := 29) (lv' := [(2, .int 29), (1, .int 0), (0, .ref m0)]) hx hb dX11_sentAll_22 hl (k := 1) rfl (by decide) (by decide) rfl (fun ls hl => ?_)
  refine lv_goto (tgt := 4) hx hb dX11_sentAll_25 (by decide) ?_
  refine lv_iload_n hx hb dX11_sentAll_4 rfl (lv_at hl 0 rfl) ?_
  refine lv_bipush (v := 30) hx hb dX11_sentAll_5 (by decide) ?_
  refine lv_icmp_ge (tgt := 28) hx hb dX11_sentAll_7 (by decide) (fun c9 => absurd c9 (by decide)) (fun _ => ?_)
  refine lv_iload_n hx hb dX11_sentAll_10 rfl (lv_at hl 1 rfl) ?_
  refine lv_aload_n hx hb dX11_sentAll_11 rfl (lv_at hl 2 rfl) ?_
  refine va_get (D := (dC, dI)) (ci := 11) (v := .ref ynow) (C := RX11) (T := TX11) (N := 61) hx hb hts hin11 hown hK hP 0 rfl rfl 12 (by decide) (hts (.fieldLink RX11 60 "PathProberModel" "now" "[I") (List.mem_of_getElem? (i := 1) (by decide +kernel))) (fun _ h9 => h9) rfl dX11_sentAll_12 ?_
  refine lv_bipush (v := 24) hx hb dX11_sentAll_15 (by decide) ?_
  refine lv_iload_n hx hb dX11_sentAll_17 rfl (lv_at hl 0 rfl) ?_
  refine lv_iadd hx hb dX11_sentAll_18 ?_
  refine lv_topi (fun z175 e176 => ?_)
  obtain rfl : z175 = (53 : Int32) := e176.trans (by decide)
  refine va_iald hx hb hK hP 1 1 rfl rfl (vp_in_nI (n := 53) (by decide) (by decide)) dX11_sentAll_19 ?_
  refine lv_topi (fun z177 e178 => ?_)
  obtain rfl : z177 = (0 : Int32) := e178.trans (by decide)
  refine lv_iadd hx hb dX11_sentAll_20 ?_
  refine lv_topi (fun z179 e180 => ?_)
  obtain rfl : z179 = (0 : Int32) := e180.trans (by decide)
  refine lv_istore_n (lv' := [(1, .int 0), (2, .int 29), (0, .ref m0)]) hx hb dX11_sentAll_21 rfl hl (by decide) rfl (fun ls hl => ?_)
  refine lv_iinc (v := 30) (lv' := [(2, .int 30), (1, .int 0), (0, .ref m0)]) hx hb dX11_sentAll_22 hl (k := 1) rfl (by decide) (by decide) rfl (fun ls hl => ?_)
  refine lv_goto (tgt := 4) hx hb dX11_sentAll_25 (by decide) ?_
  refine lv_iload_n hx hb dX11_sentAll_4 rfl (lv_at hl 0 rfl) ?_
  refine lv_bipush (v := 30) hx hb dX11_sentAll_5 (by decide) ?_
  refine lv_icmp_ge (tgt := 28) hx hb dX11_sentAll_7 (by decide) (fun _ => ?_) (fun c9 => absurd (by decide) c9)
  refine lv_iload_n hx hb dX11_sentAll_28 rfl (lv_at hl 1 rfl) ?_
  have hP9 := hP.sub (ws' := [(m0, .inr (11, [.ref ywords, .ref ykinds, .int 0, .ref ytold, .ref ykind, .ref ysalt, .ref ypace, .ref ymute, .ref ylate, .ref yfrom, .ref yto, .ref ygoal, .ref ynow, .ref ystatus, .ref ytape, .int 0, .int 0, .int 0, .int 0, .int 0, .int 0, .int 0, .int 0, .int 0, .int (-1), .ref yreach, .int (-1), .int 0, .int 0, .int 0, .int 0, .int 0, .ref ymet, .int 0, .ref ypast, .ref yisAt, .ref ywaysTo, .ref ywide, .ref ydiamondFrom, .ref ydiamondTo, .int 0, .int 0, .int 0, .int 0, .ref ynotedPort, .ref ynotedGoal, .ref ynotedHop, .ref ynotedAddress, .ref yfitting, .int 0, .ref yrowThen, .int 0, .int 0, .int 0, .ref yimageRow, .ref ypastThen, .ref ynotedPortThen, .ref ynotedGoalThen, .ref ynotedHopThen, .ref ynotedAddressThen, .ref ystatusThen])), (ynow, .inl (kI, 1019, .inl (upd (fun _ => 0) 54 5)))]) [0, 1] rfl
  have hD9 := hD.sub (ws' := [(m0, .inr (11, [.ref ywords, .ref ykinds, .int 0, .ref ytold, .ref ykind, .ref ysalt, .ref ypace, .ref ymute, .ref ylate, .ref yfrom, .ref yto, .ref ygoal, .ref ynow, .ref ystatus, .ref ytape, .int 0, .int 0, .int 0, .int 0, .int 0, .int 0, .int 0, .int 0, .int 0, .int (-1), .ref yreach, .int (-1), .int 0, .int 0, .int 0, .int 0, .int 0, .ref ymet, .int 0, .ref ypast, .ref yisAt, .ref ywaysTo, .ref ywide, .ref ydiamondFrom, .ref ydiamondTo, .int 0, .int 0, .int 0, .int 0, .ref ynotedPort, .ref ynotedGoal, .ref ynotedHop, .ref ynotedAddress, .ref yfitting, .int 0, .ref yrowThen, .int 0, .int 0, .int 0, .ref yimageRow, .ref ypastThen, .ref ynotedPortThen, .ref ynotedGoalThen, .ref ynotedHopThen, .ref ynotedAddressThen, .ref ystatusThen])), (ynow, .inl (kI, 1019, .inl (upd (fun _ => 0) 54 5)))]) [0, 1] (by decide) rfl
  exact W.iret (v := 0) hx hb hr (fun t ht hW => ⟨⟨0, (), rfl, rfl, by rw [ht]; exact hP9, hD9⟩, hS.F ht⟩) hS.2.2 dX11_sentAll_29
def rm_k11_sentAll1 : Room := { frames := 0, cells := 0, slots := 0, locals := 0 }
set_option maxHeartbeats 4000000 in
set_option maxRecDepth 100000 in
theorem k11_sentAll1 (l : Launch) (dC : Nat → ClassId) (dI : Nat → Nat → Nat) (kB kI kJ kZ kC kS : ClassId) (sz : Nat) (m0 : Nat) (ywords : Nat) (ykinds : Nat) (ytold : Nat) (ykind : Nat) (ysalt : Nat) (ypace : Nat) (ymute : Nat) (ylate : Nat) (yfrom : Nat) (yto : Nat) (ygoal : Nat) (ynow : Nat) (ystatus : Nat) (ytape : Nat) (yreach : Nat) (ymet : Nat) (ypast : Nat) (yisAt : Nat) (ywaysTo : Nat) (ywide : Nat) (ydiamondFrom : Nat) (ydiamondTo : Nat) (ynotedPort : Nat) (ynotedGoal : Nat) (ynotedHop : Nat) (ynotedAddress : Nat) (yfitting : Nat) (yrowThen : Nat) (yimageRow : Nat) (ypastThen : Nat) (ynotedPortThen : Nat) (ynotedGoalThen : Nat) (ynotedHopThen : Nat) (ynotedAddressThen : Nat) (ystatusThen : Nat) : Met l yX11_sentAll wsX11_sentAll rm_k11_sentAll1 (va_Pc [.ref m0] (fun U => U.heap.size = sz ∧ va_P (dC, dI) vwCl [(m0, .inr (11, [.ref ywords, .ref ykinds, .int 0, .ref ytold, .ref ykind, .ref ysalt, .ref ypace, .ref ymute, .ref ylate, .ref yfrom, .ref yto, .ref ygoal, .ref ynow, .ref ystatus, .ref ytape, .int 0, .int 0, .int 0, .int 0, .int 0, .int 0, .int 0, .int 0, .int 0, .int (-1), .ref yreach, .int (-1), .int 0, .int 0, .int 0, .int 0, .int 0, .ref ymet, .int 1, .ref ypast, .ref yisAt, .ref ywaysTo, .ref ywide, .ref ydiamondFrom, .ref ydiamondTo, .int 0, .int 0, .int 0, .int 0, .ref ynotedPort, .ref ynotedGoal, .ref ynotedHop, .ref ynotedAddress, .ref yfitting, .int 0, .ref yrowThen, .int 0, .int 0, .int 0, .ref yimageRow, .ref ypastThen, .ref ynotedPortThen, .ref ynotedGoalThen, .ref ynotedHopThen, .ref ynotedAddressThen, .ref ystatusThen])), (ynow, .inl (kI, 1019, .inl (upd (fun _ => 0) 54 5)))] U.heap ∧ kE dC dI kB kI kJ kZ kC kS U ∧ va_D (fun _ => True) [(m0, .inr (11, [.ref ywords, .ref ykinds, .int 0, .ref ytold, .ref ykind, .ref ysalt, .ref ypace, .ref ymute, .ref ylate, .ref yfrom, .ref yto, .ref ygoal, .ref ynow, .ref ystatus, .ref ytape, .int 0, .int 0, .int 0, .int 0, .int 0, .int 0, .int 0, .int 0, .int 0, .int (-1), .ref yreach, .int (-1), .int 0, .int 0, .int 0, .int 0, .int 0, .ref ymet, .int 1, .ref ypast, .ref yisAt, .ref ywaysTo, .ref ywide, .ref ydiamondFrom, .ref ydiamondTo, .int 0, .int 0, .int 0, .int 0, .ref ynotedPort, .ref ynotedGoal, .ref ynotedHop, .ref ynotedAddress, .ref yfitting, .int 0, .ref yrowThen, .int 0, .int 0, .int 0, .ref yimageRow, .ref ypastThen, .ref ynotedPortThen, .ref ynotedGoalThen, .ref ynotedHopThen, .ref ynotedAddressThen, .ref ystatusThen])), (ynow, .inl (kI, 1019, .inl (upd (fun _ => 0) 54 5)))])) (va_Qi (fun (r : Int32) (_ : Unit) => r = 0) (fun _ t => va_P (dC, dI) vwCl [(m0, .inr (11, [.ref ywords, .ref ykinds, .int 0, .ref ytold, .ref ykind, .ref ysalt, .ref ypace, .ref ymute, .ref ylate, .ref yfrom, .ref yto, .ref ygoal, .ref ynow, .ref ystatus, .ref ytape, .int 0, .int 0, .int 0, .int 0, .int 0, .int 0, .int 0, .int 0, .int 0, .int (-1), .ref yreach, .int (-1), .int 0, .int 0, .int 0, .int 0, .int 0, .ref ymet, .int 1, .ref ypast, .ref yisAt, .ref ywaysTo, .ref ywide, .ref ydiamondFrom, .ref ydiamondTo, .int 0, .int 0, .int 0, .int 0, .ref ynotedPort, .ref ynotedGoal, .ref ynotedHop, .ref ynotedAddress, .ref yfitting, .int 0, .ref yrowThen, .int 0, .int 0, .int 0, .ref yimageRow, .ref ypastThen, .ref ynotedPortThen, .ref ynotedGoalThen, .ref ynotedHopThen, .ref ynotedAddressThen, .ref ystatusThen])), (ynow, .inl (kI, 1019, .inl (upd (fun _ => 0) 54 5)))] t.heap ∧ va_D (va_A [(m0, .inr (11, [.ref ywords, .ref ykinds, .int 0, .ref ytold, .ref ykind, .ref ysalt, .ref ypace, .ref ymute, .ref ylate, .ref yfrom, .ref yto, .ref ygoal, .ref ynow, .ref ystatus, .ref ytape, .int 0, .int 0, .int 0, .int 0, .int 0, .int 0, .int 0, .int 0, .int 0, .int (-1), .ref yreach, .int (-1), .int 0, .int 0, .int 0, .int 0, .int 0, .ref ymet, .int 1, .ref ypast, .ref yisAt, .ref ywaysTo, .ref ywide, .ref ydiamondFrom, .ref ydiamondTo, .int 0, .int 0, .int 0, .int 0, .ref ynotedPort, .ref ynotedGoal, .ref ynotedHop, .ref ynotedAddress, .ref yfitting, .int 0, .ref yrowThen, .int 0, .int 0, .int 0, .ref yimageRow, .ref ypastThen, .ref ynotedPortThen, .ref ynotedGoalThen, .ref ynotedHopThen, .ref ynotedAddressThen, .ref ystatusThen])), (ynow, .inl (kI, 1019, .inl (upd (fun _ => 0) 54 5)))] sz) [(m0, .inr (11, [.ref ywords, .ref ykinds, .int 0, .ref ytold, .ref ykind, .ref ysalt, .ref ypace, .ref ymute, .ref ylate, .ref yfrom, .ref yto, .ref ygoal, .ref ynow, .ref ystatus, .ref ytape, .int 0, .int 0, .int 0, .int 0, .int 0, .int 0, .int 0, .int 0, .int 0, .int (-1), .ref yreach, .int (-1), .int 0, .int 0, .int 0, .int 0, .int 0, .ref ymet, .int 1, .ref ypast, .ref yisAt, .ref ywaysTo, .ref ywide, .ref ydiamondFrom, .ref ydiamondTo, .int 0, .int 0, .int 0, .int 0, .ref ynotedPort, .ref ynotedGoal, .ref ynotedHop, .ref ynotedAddress, .ref yfitting, .int 0, .ref yrowThen, .int 0, .int 0, .int 0, .ref yimageRow, .ref ypastThen, .ref ynotedPortThen, .ref ynotedGoalThen, .ref ynotedHopThen, .ref ynotedAddressThen, .ref ystatusThen])), (ynow, .inl (kI, 1019, .inl (upd (fun _ => 0) 54 5)))]) (va_A [(m0, .inr (11, [.ref ywords, .ref ykinds, .int 0, .ref ytold, .ref ykind, .ref ysalt, .ref ypace, .ref ymute, .ref ylate, .ref yfrom, .ref yto, .ref ygoal, .ref ynow, .ref ystatus, .ref ytape, .int 0, .int 0, .int 0, .int 0, .int 0, .int 0, .int 0, .int 0, .int 0, .int (-1), .ref yreach, .int (-1), .int 0, .int 0, .int 0, .int 0, .int 0, .ref ymet, .int 1, .ref ypast, .ref yisAt, .ref ywaysTo, .ref ywide, .ref ydiamondFrom, .ref ydiamondTo, .int 0, .int 0, .int 0, .int 0, .ref ynotedPort, .ref ynotedGoal, .ref ynotedHop, .ref ynotedAddress, .ref yfitting, .int 0, .ref yrowThen, .int 0, .int 0, .int 0, .ref yimageRow, .ref ypastThen, .ref ynotedPortThen, .ref ynotedGoalThen, .ref ynotedHopThen, .ref ynotedAddressThen, .ref ystatusThen])), (ynow, .inl (kI, 1019, .inl (upd (fun _ => 0) 54 5)))] sz)) 0 0 (va_A [(m0, .inr (11, [.ref ywords, .ref ykinds, .int 0, .ref ytold, .ref ykind, .ref ysalt, .ref ypace, .ref ymute, .ref ylate, .ref yfrom, .ref yto, .ref ygoal, .ref ynow, .ref ystatus, .ref ytape, .int 0, .int 0, .int 0, .int 0, .int 0, .int 0, .int 0, .int 0, .int 0, .int (-1), .ref yreach, .int (-1), .int 0, .int 0, .int 0, .int 0, .int 0, .ref ymet, .int 1, .ref ypast, .ref yisAt, .ref ywaysTo, .ref ywide, .ref ydiamondFrom, .ref ydiamondTo, .int 0, .int 0, .int 0, .int 0, .ref ynotedPort, .ref ynotedGoal, .ref ynotedHop, .ref ynotedAddress, .ref yfitting, .int 0, .ref yrowThen, .int 0, .int 0, .int 0, .ref yimageRow, .ref ypastThen, .ref ynotedPortThen, .ref ynotedGoalThen, .ref ynotedHopThen, .ref ynotedAddressThen, .ref ystatusThen])), (ynow, .inl (kI, 1019, .inl (upd (fun _ => 0) 54 5)))] sz) := by
  refine Met.ofW (cc := cX11_sentAll) (maxL := 3) (ret := (some .int)) (by decide) rfl ?_
  intro p e s m args0 below meth c s₁ B hml hv
  obtain ⟨hargs, hsz, hP, hE, hD0⟩ := hv
  have hx := B.exec
  have hb := B.bytes
  have hr := B.returns
  have hts := atoms_spec (ws := wsX11_sentAll) B.pre
  have hown : s.vm.findClass RX11 = some m.cls := findClass_of_methodNamed B.named
  have hlocks := B.notSynchronized
  have hK := hE.1
  have hin11 : ∀ w ∈ wsX110, w ∈ wsX11_sentAll := fun _ h9 => List.mem_cons_of_mem _ (List.mem_append_right _ h9)
  subst hsz
  have hD := hD0.self (sz := s.heap.size)
  generalize hAe : va_A [(m0, .inr (11, [.ref ywords, .ref ykinds, .int 0, .ref ytold, .ref ykind, .ref ysalt, .ref ypace, .ref ymute, .ref ylate, .ref yfrom, .ref yto, .ref ygoal, .ref ynow, .ref ystatus, .ref ytape, .int 0, .int 0, .int 0, .int 0, .int 0, .int 0, .int 0, .int 0, .int 0, .int (-1), .ref yreach, .int (-1), .int 0, .int 0, .int 0, .int 0, .int 0, .ref ymet, .int 1, .ref ypast, .ref yisAt, .ref ywaysTo, .ref ywide, .ref ydiamondFrom, .ref ydiamondTo, .int 0, .int 0, .int 0, .int 0, .ref ynotedPort, .ref ynotedGoal, .ref ynotedHop, .ref ynotedAddress, .ref yfitting, .int 0, .ref yrowThen, .int 0, .int 0, .int 0, .ref yimageRow, .ref ypastThen, .ref ynotedPortThen, .ref ynotedGoalThen, .ref ynotedHopThen, .ref ynotedAddressThen, .ref ystatusThen])), (ynow, .inl (kI, 1019, .inl (upd (fun _ => 0) 54 5)))] s.heap.size = A at hD ⊢
  have hA : ∀ q : Nat, s.heap.size ≤ q → A q := fun q h => by rw [← hAe]; exact Or.inr h
  have hS : va_S A s.heap s.heap [] := va_S.rf
  have hP : va_P (dC, dI) vwCl [(m0, .inr (11, [.ref ywords, .ref ykinds, .int 0, .ref ytold, .ref ykind, .ref ysalt, .ref ypace, .ref ymute, .ref ylate, .ref yfrom, .ref yto, .ref ygoal, .ref ynow, .ref ystatus, .ref ytape, .int 0, .int 0, .int 0, .int 0, .int 0, .int 0, .int 0, .int 0, .int 0, .int (-1), .ref yreach, .int (-1), .int 0, .int 0, .int 0, .int 0, .int 0, .ref ymet, .int 1, .ref ypast, .ref yisAt, .ref ywaysTo, .ref ywide, .ref ydiamondFrom, .ref ydiamondTo, .int 0, .int 0, .int 0, .int 0, .ref ynotedPort, .ref ynotedGoal, .ref ynotedHop, .ref ynotedAddress, .ref yfitting, .int 0, .ref yrowThen, .int 0, .int 0, .int 0, .ref yimageRow, .ref ypastThen, .ref ynotedPortThen, .ref ynotedGoalThen, .ref ynotedHopThen, .ref ynotedAddressThen, .ref ystatusThen])), (ynow, .inl (kI, 1019, .inl (upd (fun _ => 0) 54 5)))] s.heap := hP
  have hl := lv_entry ([.ref m0]) (n := 3) (Nat.le_of_ble_eq_true rfl)
  have hla : entryFrame m args0 3 = entryFrame m ([.ref m0] : List Value).toArray 3 := by rw [hargs]
  rw [hla, lg_entry_eq]
  generalize (lg_sl ([.ref m0]) ++ List.replicate (3 - (lg_sl ([.ref m0])).length) Slot.unset).toArray = ls at hl ⊢
  have hl : lv_has ls 3 [(0, .ref m0)] := hl
  refine lv_iconst (v := 0) hx hb dX11_sentAll_0 (by decide) ?_
  refine lv_istore_n (lv' := [(1, .int 0), (0, .ref m0)]) hx hb dX11_sentAll_1 rfl hl (by decide) rfl (fun ls hl => ?_)
  refine lv_iconst (v := 0) hx hb dX11_sentAll_2 (by decide) ?_
  refine lv_istore_n (lv' := [(2, .int 0), (1, .int 0), (0, .ref m0)]) hx hb dX11_sentAll_3 rfl hl (by decide) rfl (fun ls hl => ?_)
  refine lv_iload_n hx hb dX11_sentAll_4 rfl (lv_at hl 0 rfl) ?_
  refine lv_bipush (v := 30) hx hb dX11_sentAll_5 (by decide) ?_
  refine lv_icmp_ge (tgt := 28) hx hb dX11_sentAll_7 (by decide) (fun c9 => absurd c9 (by decide)) (fun _ => ?_)
  refine lv_iload_n hx hb dX11_sentAll_10 rfl (lv_at hl 1 rfl) ?_
  refine lv_aload_n hx hb dX11_sentAll_11 rfl (lv_at hl 2 rfl) ?_
  refine va_get (D := (dC, dI)) (ci := 11) (v := .ref ynow) (C := RX11) (T := TX11) (N := 61) hx hb hts hin11 hown hK hP 0 rfl rfl 12 (by decide) (hts (.fieldLink RX11 60 "PathProberModel" "now" "[I") (List.mem_of_getElem? (i := 1) (by decide +kernel))) (fun _ h9 => h9) rfl dX11_sentAll_12 ?_
  refine lv_bipush (v := 24) hx hb dX11_sentAll_15 (by decide) ?_
  refine lv_iload_n hx hb dX11_sentAll_17 rfl (lv_at hl 0 rfl) ?_
  refine lv_iadd hx hb dX11_sentAll_18 ?_
  refine lv_topi (fun z1 e2 => ?_)
  obtain rfl : z1 = (24 : Int32) := e2.trans (by decide)
  refine va_iald hx hb hK hP 1 1 rfl rfl (vp_in_nI (n := 24) (by decide) (by decide)) dX11_sentAll_19 ?_
  refine lv_topi (fun z3 e4 => ?_)
  obtain rfl : z3 = (0 : Int32) := e4.trans (by decide)
  refine lv_iadd hx hb dX11_sentAll_20 ?_
  refine lv_topi (fun z5 e6 => ?_)
  obtain rfl : z5 = (0 : Int32) := e6.trans (by decide)
  refine lv_istore_n (lv' := [(1, .int 0), (2, .int 0), (0, .ref m0)]) hx hb dX11_sentAll_21 rfl hl (by decide) rfl (fun ls hl => ?_)
  refine lv_iinc (v := 1) (lv' := [(2, .int 1), (1, .int 0), (0, .ref m0)]) hx hb dX11_sentAll_22 hl (k := 1) rfl (by decide) (by decide) rfl (fun ls hl => ?_)
  refine lv_goto (tgt := 4) hx hb dX11_sentAll_25 (by decide) ?_
  refine lv_iload_n hx hb dX11_sentAll_4 rfl (lv_at hl 0 rfl) ?_
  refine lv_bipush (v := 30) hx hb dX11_sentAll_5 (by decide) ?_
  refine lv_icmp_ge (tgt := 28) hx hb dX11_sentAll_7 (by decide) (fun c9 => absurd c9 (by decide)) (fun _ => ?_)
  refine lv_iload_n hx hb dX11_sentAll_10 rfl (lv_at hl 1 rfl) ?_
  refine lv_aload_n hx hb dX11_sentAll_11 rfl (lv_at hl 2 rfl) ?_
  refine va_get (D := (dC, dI)) (ci := 11) (v := .ref ynow) (C := RX11) (T := TX11) (N := 61) hx hb hts hin11 hown hK hP 0 rfl rfl 12 (by decide) (hts (.fieldLink RX11 60 "PathProberModel" "now" "[I") (List.mem_of_getElem? (i := 1) (by decide +kernel))) (fun _ h9 => h9) rfl dX11_sentAll_12 ?_
  refine lv_bipush (v := 24) hx hb dX11_sentAll_15 (by decide) ?_
  refine lv_iload_n hx hb dX11_sentAll_17 rfl (lv_at hl 0 rfl) ?_
  refine lv_iadd hx hb dX11_sentAll_18 ?_
  refine lv_topi (fun z7 e8 => ?_)
  obtain rfl : z7 = (25 : Int32) := e8.trans (by decide)
  refine va_iald hx hb hK hP 1 1 rfl rfl (vp_in_nI (n := 25) (by decide) (by decide)) dX11_sentAll_19 ?_
  refine lv_topi (fun z9 e10 => ?_)
  obtain rfl : z9 = (0 : Int32) := e10.trans (by decide)
  refine lv_iadd hx hb dX11_sentAll_20 ?_
  refine lv_topi (fun z11 e12 => ?_)
  obtain rfl : z11 = (0 : Int32) := e12.trans (by decide)
  refine lv_istore_n (lv' := [(1, .int 0), (2, .int 1), (0, .ref m0)]) hx hb dX11_sentAll_21 rfl hl (by decide) rfl (fun ls hl => ?_)
  refine lv_iinc (v := 2) (lv' := [(2, .int 2), (1, .int 0), (0, .ref m0)]) hx hb dX11_sentAll_22 hl (k := 1) rfl (by decide) (by decide) rfl (fun ls hl => ?_)
  refine lv_goto (tgt := 4) hx hb dX11_sentAll_25 (by decide) ?_
  refine lv_iload_n hx hb dX11_sentAll_4 rfl (lv_at hl 0 rfl) ?_
  refine lv_bipush (v := 30) hx hb dX11_sentAll_5 (by decide) ?_
  refine lv_icmp_ge (tgt := 28) hx hb dX11_sentAll_7 (by decide) (fun c9 => absurd c9 (by decide)) (fun _ => ?_)
  refine lv_iload_n hx hb dX11_sentAll_10 rfl (lv_at hl 1 rfl) ?_
  refine lv_aload_n hx hb dX11_sentAll_11 rfl (lv_at hl 2 rfl) ?_
  refine va_get (D := (dC, dI)) (ci := 11) (v := .ref ynow) (C := RX11) (T := TX11) (N := 61) hx hb hts hin11 hown hK hP 0 rfl rfl 12 (by decide) (hts (.fieldLink RX11 60 "PathProberModel" "now" "[I") (List.mem_of_getElem? (i := 1) (by decide +kernel))) (fun _ h9 => h9) rfl dX11_sentAll_12 ?_
  refine lv_bipush (v := 24) hx hb dX11_sentAll_15 (by decide) ?_
  refine lv_iload_n hx hb dX11_sentAll_17 rfl (lv_at hl 0 rfl) ?_
  refine lv_iadd hx hb dX11_sentAll_18 ?_
  refine lv_topi (fun z13 e14 => ?_)
  obtain rfl : z13 = (26 : Int32) := e14.trans (by decide)
  refine va_iald hx hb hK hP 1 1 rfl rfl (vp_in_nI (n := 26) (by decide) (by decide)) dX11_sentAll_19 ?_
  refine lv_topi (fun z15 e16 => ?_)
  obtain rfl : z15 = (0 : Int32) := e16.trans (by decide)
  refine lv_iadd hx hb dX11_sentAll_20 ?_
  refine lv_topi (fun z17 e18 => ?_)
  obtain rfl : z17 = (0 : Int32) := e18.trans (by decide)
  refine lv_istore_n (lv' := [(1, .int 0), (2, .int 2), (0, .ref m0)]) hx hb dX11_sentAll_21 rfl hl (by decide) rfl (fun ls hl => ?_)
  refine lv_iinc (v := 3) (lv' := [(2, .int 3), (1, .int 0), (0, .ref m0)]) hx hb dX11_sentAll_22 hl (k := 1) rfl (by decide) (by decide) rfl (fun ls hl => ?_)
  refine lv_goto (tgt := 4) hx hb dX11_sentAll_25 (by decide) ?_
  refine lv_iload_n hx hb dX11_sentAll_4 rfl (lv_at hl 0 rfl) ?_
  refine lv_bipush (v := 30) hx hb dX11_sentAll_5 (by decide) ?_
  refine lv_icmp_ge (tgt := 28) hx hb dX11_sentAll_7 (by decide) (fun c9 => absurd c9 (by decide)) (fun _ => ?_)
  refine lv_iload_n hx hb dX11_sentAll_10 rfl (lv_at hl 1 rfl) ?_
  refine lv_aload_n hx hb dX11_sentAll_11 rfl (lv_at hl 2 rfl) ?_
  refine va_get (D := (dC, dI)) (ci := 11) (v := .ref ynow) (C := RX11) (T := TX11) (N := 61) hx hb hts hin11 hown hK hP 0 rfl rfl 12 (by decide) (hts (.fieldLink RX11 60 "PathProberModel" "now" "[I") (List.mem_of_getElem? (i := 1) (by decide +kernel))) (fun _ h9 => h9) rfl dX11_sentAll_12 ?_
  refine lv_bipush (v := 24) hx hb dX11_sentAll_15 (by decide) ?_
  refine lv_iload_n hx hb dX11_sentAll_17 rfl (lv_at hl 0 rfl) ?_
  refine lv_iadd hx hb dX11_sentAll_18 ?_
  refine lv_topi (fun z19 e20 => ?_)
  obtain rfl : z19 = (27 : Int32) := e20.trans (by decide)
  refine va_iald hx hb hK hP 1 1 rfl rfl (vp_in_nI (n := 27) (by decide) (by decide)) dX11_sentAll_19 ?_
  refine lv_topi (fun z21 e22 => ?_)
  obtain rfl : z21 = (0 : Int32) := e22.trans (by decide)
  refine lv_iadd hx hb dX11_sentAll_20 ?_
  refine lv_topi (fun z23 e24 => ?_)
  obtain rfl : z23 = (0 : Int32) := e24.trans (by decide)
  refine lv_istore_n (lv' := [(1, .int 0), (2, .int 3), (0, .ref m0)]) hx hb dX11_sentAll_21 rfl hl (by decide) rfl (fun ls hl => ?_)
  refine lv_iinc (v := 4) (lv' := [(2, .int 4), (1, .int 0), (0, .ref m0)]) hx hb dX11_sentAll_22 hl (k := 1) rfl (by decide) (by decide) rfl (fun ls hl => ?_)
  refine lv_goto (tgt := 4) hx hb dX11_sentAll_25 (by decide) ?_
  refine lv_iload_n hx hb dX11_sentAll_4 rfl (lv_at hl 0 rfl) ?_
  refine lv_bipush (v := 30) hx hb dX11_sentAll_5 (by decide) ?_
  refine lv_icmp_ge (tgt := 28) hx hb dX11_sentAll_7 (by decide) (fun c9 => absurd c9 (by decide)) (fun _ => ?_)
  refine lv_iload_n hx hb dX11_sentAll_10 rfl (lv_at hl 1 rfl) ?_
  refine lv_aload_n hx hb dX11_sentAll_11 rfl (lv_at hl 2 rfl) ?_
  refine va_get (D := (dC, dI)) (ci := 11) (v := .ref ynow) (C := RX11) (T := TX11) (N := 61) hx hb hts hin11 hown hK hP 0 rfl rfl 12 (by decide) (hts (.fieldLink RX11 60 "PathProberModel" "now" "[I") (List.mem_of_getElem? (i := 1) (by decide +kernel))) (fun _ h9 => h9) rfl dX11_sentAll_12 ?_
  refine lv_bipush (v := 24) hx hb dX11_sentAll_15 (by decide) ?_
  refine lv_iload_n hx hb dX11_sentAll_17 rfl (lv_at hl 0 rfl) ?_
  refine lv_iadd hx hb dX11_sentAll_18 ?_
  refine lv_topi (fun z25 e26 => ?_)
  obtain rfl : z25 = (28 : Int32) := e26.trans (by decide)
  refine va_iald hx hb hK hP 1 1 rfl rfl (vp_in_nI (n := 28) (by decide) (by decide)) dX11_sentAll_19 ?_
  refine lv_topi (fun z27 e28 => ?_)
  obtain rfl : z27 = (0 : Int32) := e28.trans (by decide)
  refine lv_iadd hx hb dX11_sentAll_20 ?_
  refine lv_topi (fun z29 e30 => ?_)
  obtain rfl : z29 = (0 : Int32) := e30.trans (by decide)
  refine lv_istore_n (lv' := [(1, .int 0), (2, .int 4), (0, .ref m0)]) hx hb dX11_sentAll_21 rfl hl (by decide) rfl (fun ls hl => ?_)
  refine lv_iinc (v := 5) (lv' := [(2, .int 5), (1, .int 0), (0, .ref m0)]) hx hb dX11_sentAll_22 hl (k := 1) rfl (by decide) (by decide) rfl (fun ls hl => ?_)
  refine lv_goto (tgt := 4) hx hb dX11_sentAll_25 (by decide) ?_
  refine lv_iload_n hx hb dX11_sentAll_4 rfl (lv_at hl 0 rfl) ?_
  refine lv_bipush (v := 30) hx hb dX11_sentAll_5 (by decide) ?_
  refine lv_icmp_ge (tgt := 28) hx hb dX11_sentAll_7 (by decide) (fun c9 => absurd c9 (by decide)) (fun _ => ?_)
  refine lv_iload_n hx hb dX11_sentAll_10 rfl (lv_at hl 1 rfl) ?_
  refine lv_aload_n hx hb dX11_sentAll_11 rfl (lv_at hl 2 rfl) ?_
  refine va_get (D := (dC, dI)) (ci := 11) (v := .ref ynow) (C := RX11) (T := TX11) (N := 61) hx hb hts hin11 hown hK hP 0 rfl rfl 12 (by decide) (hts (.fieldLink RX11 60 "PathProberModel" "now" "[I") (List.mem_of_getElem? (i := 1) (by decide +kernel))) (fun _ h9 => h9) rfl dX11_sentAll_12 ?_
  refine lv_bipush (v := 24) hx hb dX11_sentAll_15 (by decide) ?_
  refine lv_iload_n hx hb dX11_sentAll_17 rfl (lv_at hl 0 rfl) ?_
  refine lv_iadd hx hb dX11_sentAll_18 ?_
  refine lv_topi (fun z31 e32 => ?_)
  obtain rfl : z31 = (29 : Int32) := e32.trans (by decide)
  refine va_iald hx hb hK hP 1 1 rfl rfl (vp_in_nI (n := 29) (by decide) (by decide)) dX11_sentAll_19 ?_
  refine lv_topi (fun z33 e34 => ?_)
  obtain rfl : z33 = (0 : Int32) := e34.trans (by decide)
  refine lv_iadd hx hb dX11_sentAll_20 ?_
  refine lv_topi (fun z35 e36 => ?_)
  obtain rfl : z35 = (0 : Int32) := e36.trans (by decide)
  refine lv_istore_n (lv' := [(1, .int 0), (2, .int 5), (0, .ref m0)]) hx hb dX11_sentAll_21 rfl hl (by decide) rfl (fun ls hl => ?_)
  refine lv_iinc (v := 6) (lv' := [(2, .int 6), (1, .int 0), (0, .ref m0)]) hx hb dX11_sentAll_22 hl (k := 1) rfl (by decide) (by decide) rfl (fun ls hl => ?_)
  refine lv_goto (tgt := 4) hx hb dX11_sentAll_25 (by decide) ?_
  refine lv_iload_n hx hb dX11_sentAll_4 rfl (lv_at hl 0 rfl) ?_
  refine lv_bipush (v := 30) hx hb dX11_sentAll_5 (by decide) ?_
  refine lv_icmp_ge (tgt := 28) hx hb dX11_sentAll_7 (by decide) (fun c9 => absurd c9 (by decide)) (fun _ => ?_)
  refine lv_iload_n hx hb dX11_sentAll_10 rfl (lv_at hl 1 rfl) ?_
  refine lv_aload_n hx hb dX11_sentAll_11 rfl (lv_at hl 2 rfl) ?_
  refine va_get (D := (dC, dI)) (ci := 11) (v := .ref ynow) (C := RX11) (T := TX11) (N := 61) hx hb hts hin11 hown hK hP 0 rfl rfl 12 (by decide) (hts (.fieldLink RX11 60 "PathProberModel" "now" "[I") (List.mem_of_getElem? (i := 1) (by decide +kernel))) (fun _ h9 => h9) rfl dX11_sentAll_12 ?_
  refine lv_bipush (v := 24) hx hb dX11_sentAll_15 (by decide) ?_
  refine lv_iload_n hx hb dX11_sentAll_17 rfl (lv_at hl 0 rfl) ?_
  refine lv_iadd hx hb dX11_sentAll_18 ?_
  refine lv_topi (fun z37 e38 => ?_)
  obtain rfl : z37 = (30 : Int32) := e38.trans (by decide)
  refine va_iald hx hb hK hP 1 1 rfl rfl (vp_in_nI (n := 30) (by decide) (by decide)) dX11_sentAll_19 ?_
  refine lv_topi (fun z39 e40 => ?_)
  obtain rfl : z39 = (0 : Int32) := e40.trans (by decide)
  refine lv_iadd hx hb dX11_sentAll_20 ?_
  refine lv_topi (fun z41 e42 => ?_)
  obtain rfl : z41 = (0 : Int32) := e42.trans (by decide)
  refine lv_istore_n (lv' := [(1, .int 0), (2, .int 6), (0, .ref m0)]) hx hb dX11_sentAll_21 rfl hl (by decide) rfl (fun ls hl => ?_)
  refine lv_iinc (v := 7) (lv' := [(2, .int 7), (1, .int 0), (0, .ref m0)]) hx hb dX11_sentAll_22 hl (k := 1) rfl (by decide) (by decide) rfl (fun ls hl => ?_)
  refine lv_goto (tgt := 4) hx hb dX11_sentAll_25 (by decide) ?_
  refine lv_iload_n hx hb dX11_sentAll_4 rfl (lv_at hl 0 rfl) ?_
  refine lv_bipush (v := 30) hx hb dX11_sentAll_5 (by decide) ?_
  refine lv_icmp_ge (tgt := 28) hx hb dX11_sentAll_7 (by decide) (fun c9 => absurd c9 (by decide)) (fun _ => ?_)
  refine lv_iload_n hx hb dX11_sentAll_10 rfl (lv_at hl 1 rfl) ?_
  refine lv_aload_n hx hb dX11_sentAll_11 rfl (lv_at hl 2 rfl) ?_
  refine va_get (D := (dC, dI)) (ci := 11) (v := .ref ynow) (C := RX11) (T := TX11) (N := 61) hx hb hts hin11 hown hK hP 0 rfl rfl 12 (by decide) (hts (.fieldLink RX11 60 "PathProberModel" "now" "[I") (List.mem_of_getElem? (i := 1) (by decide +kernel))) (fun _ h9 => h9) rfl dX11_sentAll_12 ?_
  refine lv_bipush (v := 24) hx hb dX11_sentAll_15 (by decide) ?_
  refine lv_iload_n hx hb dX11_sentAll_17 rfl (lv_at hl 0 rfl) ?_
  refine lv_iadd hx hb dX11_sentAll_18 ?_
  refine lv_topi (fun z43 e44 => ?_)
  obtain rfl : z43 = (31 : Int32) := e44.trans (by decide)
  refine va_iald hx hb hK hP 1 1 rfl rfl (vp_in_nI (n := 31) (by decide) (by decide)) dX11_sentAll_19 ?_
  refine lv_topi (fun z45 e46 => ?_)
  obtain rfl : z45 = (0 : Int32) := e46.trans (by decide)
  refine lv_iadd hx hb dX11_sentAll_20 ?_
  refine lv_topi (fun z47 e48 => ?_)
  obtain rfl : z47 = (0 : Int32) := e48.trans (by decide)
  refine lv_istore_n (lv' := [(1, .int 0), (2, .int 7), (0, .ref m0)]) hx hb dX11_sentAll_21 rfl hl (by decide) rfl (fun ls hl => ?_)
  refine lv_iinc (v := 8) (lv' := [(2, .int 8), (1, .int 0), (0, .ref m0)]) hx hb dX11_sentAll_22 hl (k := 1) rfl (by decide) (by decide) rfl (fun ls hl => ?_)
  refine lv_goto (tgt := 4) hx hb dX11_sentAll_25 (by decide) ?_
  refine lv_iload_n hx hb dX11_sentAll_4 rfl (lv_at hl 0 rfl) ?_
  refine lv_bipush (v := 30) hx hb dX11_sentAll_5 (by decide) ?_
  refine lv_icmp_ge (tgt := 28) hx hb dX11_sentAll_7 (by decide) (fun c9 => absurd c9 (by decide)) (fun _ => ?_)
  refine lv_iload_n hx hb dX11_sentAll_10 rfl (lv_at hl 1 rfl) ?_
  refine lv_aload_n hx hb dX11_sentAll_11 rfl (lv_at hl 2 rfl) ?_
  refine va_get (D := (dC, dI)) (ci := 11) (v := .ref ynow) (C := RX11) (T := TX11) (N := 61) hx hb hts hin11 hown hK hP 0 rfl rfl 12 (by decide) (hts (.fieldLink RX11 60 "PathProberModel" "now" "[I") (List.mem_of_getElem? (i := 1) (by decide +kernel))) (fun _ h9 => h9) rfl dX11_sentAll_12 ?_
  refine lv_bipush (v := 24) hx hb dX11_sentAll_15 (by decide) ?_
  refine lv_iload_n hx hb dX11_sentAll_17 rfl (lv_at hl 0 rfl) ?_
  refine lv_iadd hx hb dX11_sentAll_18 ?_
  refine lv_topi (fun z49 e50 => ?_)
  obtain rfl : z49 = (32 : Int32) := e50.trans (by decide)
  refine va_iald hx hb hK hP 1 1 rfl rfl (vp_in_nI (n := 32) (by decide) (by decide)) dX11_sentAll_19 ?_
  refine lv_topi (fun z51 e52 => ?_)
  obtain rfl : z51 = (0 : Int32) := e52.trans (by decide)
  refine lv_iadd hx hb dX11_sentAll_20 ?_
  refine lv_topi (fun z53 e54 => ?_)
  obtain rfl : z53 = (0 : Int32) := e54.trans (by decide)
  refine lv_istore_n (lv' := [(1, .int 0), (2, .int 8), (0, .ref m0)]) hx hb dX11_sentAll_21 rfl hl (by decide) rfl (fun ls hl => ?_)
  refine lv_iinc (v := 9) (lv' := [(2, .int 9), (1, .int 0), (0, .ref m0)]) hx hb dX11_sentAll_22 hl (k := 1) rfl (by decide) (by decide) rfl (fun ls hl => ?_)
  refine lv_goto (tgt := 4) hx hb dX11_sentAll_25 (by decide) ?_
  refine lv_iload_n hx hb dX11_sentAll_4 rfl (lv_at hl 0 rfl) ?_
  refine lv_bipush (v := 30) hx hb dX11_sentAll_5 (by decide) ?_
  refine lv_icmp_ge (tgt := 28) hx hb dX11_sentAll_7 (by decide) (fun c9 => absurd c9 (by decide)) (fun _ => ?_)
  refine lv_iload_n hx hb dX11_sentAll_10 rfl (lv_at hl 1 rfl) ?_
  refine lv_aload_n hx hb dX11_sentAll_11 rfl (lv_at hl 2 rfl) ?_
  refine va_get (D := (dC, dI)) (ci := 11) (v := .ref ynow) (C := RX11) (T := TX11) (N := 61) hx hb hts hin11 hown hK hP 0 rfl rfl 12 (by decide) (hts (.fieldLink RX11 60 "PathProberModel" "now" "[I") (List.mem_of_getElem? (i := 1) (by decide +kernel))) (fun _ h9 => h9) rfl dX11_sentAll_12 ?_
  refine lv_bipush (v := 24) hx hb dX11_sentAll_15 (by decide) ?_
  refine lv_iload_n hx hb dX11_sentAll_17 rfl (lv_at hl 0 rfl) ?_
  refine lv_iadd hx hb dX11_sentAll_18 ?_
  refine lv_topi (fun z55 e56 => ?_)
  obtain rfl : z55 = (33 : Int32) := e56.trans (by decide)
  refine va_iald hx hb hK hP 1 1 rfl rfl (vp_in_nI (n := 33) (by decide) (by decide)) dX11_sentAll_19 ?_
  refine lv_topi (fun z57 e58 => ?_)
  obtain rfl : z57 = (0 : Int32) := e58.trans (by decide)
  refine lv_iadd hx hb dX11_sentAll_20 ?_
  refine lv_topi (fun z59 e60 => ?_)
  obtain rfl : z59 = (0 : Int32) := e60.trans (by decide)
  refine lv_istore_n (lv' := [(1, .int 0), (2, .int 9), (0, .ref m0)]) hx hb dX11_sentAll_21 rfl hl (by decide) rfl (fun ls hl => ?_)
  refine lv_iinc (v := 10) (lv' := [(2, .int 10), (1, .int 0), (0, .ref m0)]) hx hb dX11_sentAll_22 hl (k := 1) rfl (by decide) (by decide) rfl (fun ls hl => ?_)
  refine lv_goto (tgt := 4) hx hb dX11_sentAll_25 (by decide) ?_
  refine lv_iload_n hx hb dX11_sentAll_4 rfl (lv_at hl 0 rfl) ?_
  refine lv_bipush (v := 30) hx hb dX11_sentAll_5 (by decide) ?_
  refine lv_icmp_ge (tgt := 28) hx hb dX11_sentAll_7 (by decide) (fun c9 => absurd c9 (by decide)) (fun _ => ?_)
  refine lv_iload_n hx hb dX11_sentAll_10 rfl (lv_at hl 1 rfl) ?_
  refine lv_aload_n hx hb dX11_sentAll_11 rfl (lv_at hl 2 rfl) ?_
  refine va_get (D := (dC, dI)) (ci := 11) (v := .ref ynow) (C := RX11) (T := TX11) (N := 61) hx hb hts hin11 hown hK hP 0 rfl rfl 12 (by decide) (hts (.fieldLink RX11 60 "PathProberModel" "now" "[I") (List.mem_of_getElem? (i := 1) (by decide +kernel))) (fun _ h9 => h9) rfl dX11_sentAll_12 ?_
  refine lv_bipush (v := 24) hx hb dX11_sentAll_15 (by decide) ?_
  refine lv_iload_n hx hb dX11_sentAll_17 rfl (lv_at hl 0 rfl) ?_
  refine lv_iadd hx hb dX11_sentAll_18 ?_
  refine lv_topi (fun z61 e62 => ?_)
  obtain rfl : z61 = (34 : Int32) := e62.trans (by decide)
  refine va_iald hx hb hK hP 1 1 rfl rfl (vp_in_nI (n := 34) (by decide) (by decide)) dX11_sentAll_19 ?_
  refine lv_topi (fun z63 e64 => ?_)
  obtain rfl : z63 = (0 : Int32) := e64.trans (by decide)
  refine lv_iadd hx hb dX11_sentAll_20 ?_
  refine lv_topi (fun z65 e66 => ?_)
  obtain rfl : z65 = (0 : Int32) := e66.trans (by decide)
  refine lv_istore_n (lv' := [(1, .int 0), (2, .int 10), (0, .ref m0)]) hx hb dX11_sentAll_21 rfl hl (by decide) rfl (fun ls hl => ?_)
  refine lv_iinc (v := 11) (lv' := [(2, .int 11), (1, .int 0), (0, .ref m0)]) hx hb dX11_sentAll_22 hl (k := 1) rfl (by decide) (by decide) rfl (fun ls hl => ?_)
  refine lv_goto (tgt := 4) hx hb dX11_sentAll_25 (by decide) ?_
  refine lv_iload_n hx hb dX11_sentAll_4 rfl (lv_at hl 0 rfl) ?_
  refine lv_bipush (v := 30) hx hb dX11_sentAll_5 (by decide) ?_
  refine lv_icmp_ge (tgt := 28) hx hb dX11_sentAll_7 (by decide) (fun c9 => absurd c9 (by decide)) (fun _ => ?_)
  refine lv_iload_n hx hb dX11_sentAll_10 rfl (lv_at hl 1 rfl) ?_
  refine lv_aload_n hx hb dX11_sentAll_11 rfl (lv_at hl 2 rfl) ?_
  refine va_get (D := (dC, dI)) (ci := 11) (v := .ref ynow) (C := RX11) (T := TX11) (N := 61) hx hb hts hin11 hown hK hP 0 rfl rfl 12 (by decide) (hts (.fieldLink RX11 60 "PathProberModel" "now" "[I") (List.mem_of_getElem? (i := 1) (by decide +kernel))) (fun _ h9 => h9) rfl dX11_sentAll_12 ?_
  refine lv_bipush (v := 24) hx hb dX11_sentAll_15 (by decide) ?_
  refine lv_iload_n hx hb dX11_sentAll_17 rfl (lv_at hl 0 rfl) ?_
  refine lv_iadd hx hb dX11_sentAll_18 ?_
  refine lv_topi (fun z67 e68 => ?_)
  obtain rfl : z67 = (35 : Int32) := e68.trans (by decide)
  refine va_iald hx hb hK hP 1 1 rfl rfl (vp_in_nI (n := 35) (by decide) (by decide)) dX11_sentAll_19 ?_
  refine lv_topi (fun z69 e70 => ?_)
  obtain rfl : z69 = (0 : Int32) := e70.trans (by decide)
  refine lv_iadd hx hb dX11_sentAll_20 ?_
  refine lv_topi (fun z71 e72 => ?_)
  obtain rfl : z71 = (0 : Int32) := e72.trans (by decide)
  refine lv_istore_n (lv' := [(1, .int 0), (2, .int 11), (0, .ref m0)]) hx hb dX11_sentAll_21 rfl hl (by decide) rfl (fun ls hl => ?_)
  refine lv_iinc (v := 12) (lv' := [(2, .int 12), (1, .int 0), (0, .ref m0)]) hx hb dX11_sentAll_22 hl (k := 1) rfl (by decide) (by decide) rfl (fun ls hl => ?_)
  refine lv_goto (tgt := 4) hx hb dX11_sentAll_25 (by decide) ?_
  refine lv_iload_n hx hb dX11_sentAll_4 rfl (lv_at hl 0 rfl) ?_
  refine lv_bipush (v := 30) hx hb dX11_sentAll_5 (by decide) ?_
  refine lv_icmp_ge (tgt := 28) hx hb dX11_sentAll_7 (by decide) (fun c9 => absurd c9 (by decide)) (fun _ => ?_)
  refine lv_iload_n hx hb dX11_sentAll_10 rfl (lv_at hl 1 rfl) ?_
  refine lv_aload_n hx hb dX11_sentAll_11 rfl (lv_at hl 2 rfl) ?_
  refine va_get (D := (dC, dI)) (ci := 11) (v := .ref ynow) (C := RX11) (T := TX11) (N := 61) hx hb hts hin11 hown hK hP 0 rfl rfl 12 (by decide) (hts (.fieldLink RX11 60 "PathProberModel" "now" "[I") (List.mem_of_getElem? (i := 1) (by decide +kernel))) (fun _ h9 => h9) rfl dX11_sentAll_12 ?_
  refine lv_bipush (v := 24) hx hb dX11_sentAll_15 (by decide) ?_
  refine lv_iload_n hx hb dX11_sentAll_17 rfl (lv_at hl 0 rfl) ?_
  refine lv_iadd hx hb dX11_sentAll_18 ?_
  refine lv_topi (fun z73 e74 => ?_)
  obtain rfl : z73 = (36 : Int32) := e74.trans (by decide)
  refine va_iald hx hb hK hP 1 1 rfl rfl (vp_in_nI (n := 36) (by decide) (by decide)) dX11_sentAll_19 ?_
  refine lv_topi (fun z75 e76 => ?_)
  obtain rfl : z75 = (0 : Int32) := e76.trans (by decide)
  refine lv_iadd hx hb dX11_sentAll_20 ?_
  refine lv_topi (fun z77 e78 => ?_)
  obtain rfl : z77 = (0 : Int32) := e78.trans (by decide)
  refine lv_istore_n (lv' := [(1, .int 0), (2, .int 12), (0, .ref m0)]) hx hb dX11_sentAll_21 rfl hl (by decide) rfl (fun ls hl => ?_)
  refine lv_iinc (v := 13) (lv' := [(2, .int 13), (1, .int 0), (0, .ref m0)]) hx hb dX11_sentAll_22 hl (k := 1) rfl (by decide) (by decide) rfl (fun ls hl => ?_)
  refine lv_goto (tgt := 4) hx hb dX11_sentAll_25 (by decide) ?_
  refine lv_iload_n hx hb dX11_sentAll_4 rfl (lv_at hl 0 rfl) ?_
  refine lv_bipush (v := 30) hx hb dX11_sentAll_5 (by decide) ?_
  refine lv_icmp_ge (tgt := 28) hx hb dX11_sentAll_7 (by decide) (fun c9 => absurd c9 (by decide)) (fun _ => ?_)
  refine lv_iload_n hx hb dX11_sentAll_10 rfl (lv_at hl 1 rfl) ?_
  refine lv_aload_n hx hb dX11_sentAll_11 rfl (lv_at hl 2 rfl) ?_
  refine va_get (D := (dC, dI)) (ci := 11) (v := .ref ynow) (C := RX11) (T := TX11) (N := 61) hx hb hts hin11 hown hK hP 0 rfl rfl 12 (by decide) (hts (.fieldLink RX11 60 "PathProberModel" "now" "[I") (List.mem_of_getElem? (i := 1) (by decide +kernel))) (fun _ h9 => h9) rfl dX11_sentAll_12 ?_
  refine lv_bipush (v := 24) hx hb dX11_sentAll_15 (by decide) ?_
  refine lv_iload_n hx hb dX11_sentAll_17 rfl (lv_at hl 0 rfl) ?_
  refine lv_iadd hx hb dX11_sentAll_18 ?_
  refine lv_topi (fun z79 e80 => ?_)
  obtain rfl : z79 = (37 : Int32) := e80.trans (by decide)
  refine va_iald hx hb hK hP 1 1 rfl rfl (vp_in_nI (n := 37) (by decide) (by decide)) dX11_sentAll_19 ?_
  refine lv_topi (fun z81 e82 => ?_)
  obtain rfl : z81 = (0 : Int32) := e82.trans (by decide)
  refine lv_iadd hx hb dX11_sentAll_20 ?_
  refine lv_topi (fun z83 e84 => ?_)
  obtain rfl : z83 = (0 : Int32) := e84.trans (by decide)
  refine lv_istore_n (lv' := [(1, .int 0), (2, .int 13), (0, .ref m0)]) hx hb dX11_sentAll_21 rfl hl (by decide) rfl (fun ls hl => ?_)
  refine lv_iinc (v := 14) (lv' := [(2, .int 14), (1, .int 0), (0, .ref m0)]) hx hb dX11_sentAll_22 hl (k := 1) rfl (by decide) (by decide) rfl (fun ls hl => ?_)
  refine lv_goto (tgt := 4) hx hb dX11_sentAll_25 (by decide) ?_
  refine lv_iload_n hx hb dX11_sentAll_4 rfl (lv_at hl 0 rfl) ?_
  refine lv_bipush (v := 30) hx hb dX11_sentAll_5 (by decide) ?_
  refine lv_icmp_ge (tgt := 28) hx hb dX11_sentAll_7 (by decide) (fun c9 => absurd c9 (by decide)) (fun _ => ?_)
  refine lv_iload_n hx hb dX11_sentAll_10 rfl (lv_at hl 1 rfl) ?_
  refine lv_aload_n hx hb dX11_sentAll_11 rfl (lv_at hl 2 rfl) ?_
  refine va_get (D := (dC, dI)) (ci := 11) (v := .ref ynow) (C := RX11) (T := TX11) (N := 61) hx hb hts hin11 hown hK hP 0 rfl rfl 12 (by decide) (hts (.fieldLink RX11 60 "PathProberModel" "now" "[I") (List.mem_of_getElem? (i := 1) (by decide +kernel))) (fun _ h9 => h9) rfl dX11_sentAll_12 ?_
  refine lv_bipush (v := 24) hx hb dX11_sentAll_15 (by decide) ?_
  refine lv_iload_n hx hb dX11_sentAll_17 rfl (lv_at hl 0 rfl) ?_
  refine lv_iadd hx hb dX11_sentAll_18 ?_
  refine lv_topi (fun z85 e86 => ?_)
  obtain rfl : z85 = (38 : Int32) := e86.trans (by decide)
  refine va_iald hx hb hK hP 1 1 rfl rfl (vp_in_nI (n := 38) (by decide) (by decide)) dX11_sentAll_19 ?_
  refine lv_topi (fun z87 e88 => ?_)
  obtain rfl : z87 = (0 : Int32) := e88.trans (by decide)
  refine lv_iadd hx hb dX11_sentAll_20 ?_
  refine lv_topi (fun z89 e90 => ?_)
  obtain rfl : z89 = (0 : Int32) := e90.trans (by decide)
  refine lv_istore_n (lv' := [(1, .int 0), (2, .int 14), (0, .ref m0)]) hx hb dX11_sentAll_21 rfl hl (by decide) rfl (fun ls hl => ?_)
  refine lv_iinc (v := 15) (lv' := [(2, .int 15), (1, .int 0), (0, .ref m0)]) hx hb dX11_sentAll_22 hl (k := 1) rfl (by decide) (by decide) rfl (fun ls hl => ?_)
  refine lv_goto (tgt := 4) hx hb dX11_sentAll_25 (by decide) ?_
  refine lv_iload_n hx hb dX11_sentAll_4 rfl (lv_at hl 0 rfl) ?_
  refine lv_bipush (v := 30) hx hb dX11_sentAll_5 (by decide) ?_
  refine lv_icmp_ge (tgt := 28) hx hb dX11_sentAll_7 (by decide) (fun c9 => absurd c9 (by decide)) (fun _ => ?_)
  refine lv_iload_n hx hb dX11_sentAll_10 rfl (lv_at hl 1 rfl) ?_
  refine lv_aload_n hx hb dX11_sentAll_11 rfl (lv_at hl 2 rfl) ?_
  refine va_get (D := (dC, dI)) (ci := 11) (v := .ref ynow) (C := RX11) (T := TX11) (N := 61) hx hb hts hin11 hown hK hP 0 rfl rfl 12 (by decide) (hts (.fieldLink RX11 60 "PathProberModel" "now" "[I") (List.mem_of_getElem? (i := 1) (by decide +kernel))) (fun _ h9 => h9) rfl dX11_sentAll_12 ?_
  refine lv_bipush (v := 24) hx hb dX11_sentAll_15 (by decide) ?_
  refine lv_iload_n hx hb dX11_sentAll_17 rfl (lv_at hl 0 rfl) ?_
  refine lv_iadd hx hb dX11_sentAll_18 ?_
  refine lv_topi (fun z91 e92 => ?_)
  obtain rfl : z91 = (39 : Int32) := e92.trans (by decide)
  refine va_iald hx hb hK hP 1 1 rfl rfl (vp_in_nI (n := 39) (by decide) (by decide)) dX11_sentAll_19 ?_
  refine lv_topi (fun z93 e94 => ?_)
  obtain rfl : z93 = (0 : Int32) := e94.trans (by decide)
  refine lv_iadd hx hb dX11_sentAll_20 ?_
  refine lv_topi (fun z95 e96 => ?_)
  obtain rfl : z95 = (0 : Int32) := e96.trans (by decide)
  refine lv_istore_n (lv' := [(1, .int 0), (2, .int 15), (0, .ref m0)]) hx hb dX11_sentAll_21 rfl hl (by decide) rfl (fun ls hl => ?_)
  refine lv_iinc (v := 16) (lv' := [(2, .int 16), (1, .int 0), (0, .ref m0)]) hx hb dX11_sentAll_22 hl (k := 1) rfl (by decide) (by decide) rfl (fun ls hl => ?_)
  refine lv_goto (tgt := 4) hx hb dX11_sentAll_25 (by decide) ?_
  refine lv_iload_n hx hb dX11_sentAll_4 rfl (lv_at hl 0 rfl) ?_
  refine lv_bipush (v := 30) hx hb dX11_sentAll_5 (by decide) ?_
  refine lv_icmp_ge (tgt := 28) hx hb dX11_sentAll_7 (by decide) (fun c9 => absurd c9 (by decide)) (fun _ => ?_)
  refine lv_iload_n hx hb dX11_sentAll_10 rfl (lv_at hl 1 rfl) ?_
  refine lv_aload_n hx hb dX11_sentAll_11 rfl (lv_at hl 2 rfl) ?_
  refine va_get (D := (dC, dI)) (ci := 11) (v := .ref ynow) (C := RX11) (T := TX11) (N := 61) hx hb hts hin11 hown hK hP 0 rfl rfl 12 (by decide) (hts (.fieldLink RX11 60 "PathProberModel" "now" "[I") (List.mem_of_getElem? (i := 1) (by decide +kernel))) (fun _ h9 => h9) rfl dX11_sentAll_12 ?_
  refine lv_bipush (v := 24) hx hb dX11_sentAll_15 (by decide) ?_
  refine lv_iload_n hx hb dX11_sentAll_17 rfl (lv_at hl 0 rfl) ?_
  refine lv_iadd hx hb dX11_sentAll_18 ?_
  refine lv_topi (fun z97 e98 => ?_)
  obtain rfl : z97 = (40 : Int32) := e98.trans (by decide)
  refine va_iald hx hb hK hP 1 1 rfl rfl (vp_in_nI (n := 40) (by decide) (by decide)) dX11_sentAll_19 ?_
  refine lv_topi (fun z99 e100 => ?_)
  obtain rfl : z99 = (0 : Int32) := e100.trans (by decide)
  refine lv_iadd hx hb dX11_sentAll_20 ?_
  refine lv_topi (fun z101 e102 => ?_)
  obtain rfl : z101 = (0 : Int32) := e102.trans (by decide)
  refine lv_istore_n (lv' := [(1, .int 0), (2, .int 16), (0, .ref m0)]) hx hb dX11_sentAll_21 rfl hl (by decide) rfl (fun ls hl => ?_)
  refine lv_iinc (v := 17) (lv' := [(2, .int 17), (1, .int 0), (0, .ref m0)]) hx hb dX11_sentAll_22 hl (k := 1) rfl (by decide) (by decide) rfl (fun ls hl => ?_)
  refine lv_goto (tgt := 4) hx hb dX11_sentAll_25 (by decide) ?_
  refine lv_iload_n hx hb dX11_sentAll_4 rfl (lv_at hl 0 rfl) ?_
  refine lv_bipush (v := 30) hx hb dX11_sentAll_5 (by decide) ?_
  refine lv_icmp_ge (tgt := 28) hx hb dX11_sentAll_7 (by decide) (fun c9 => absurd c9 (by decide)) (fun _ => ?_)
  refine lv_iload_n hx hb dX11_sentAll_10 rfl (lv_at hl 1 rfl) ?_
  refine lv_aload_n hx hb dX11_sentAll_11 rfl (lv_at hl 2 rfl) ?_
  refine va_get (D := (dC, dI)) (ci := 11) (v := .ref ynow) (C := RX11) (T := TX11) (N := 61) hx hb hts hin11 hown hK hP 0 rfl rfl 12 (by decide) (hts (.fieldLink RX11 60 "PathProberModel" "now" "[I") (List.mem_of_getElem? (i := 1) (by decide +kernel))) (fun _ h9 => h9) rfl dX11_sentAll_12 ?_
  refine lv_bipush (v := 24) hx hb dX11_sentAll_15 (by decide) ?_
  refine lv_iload_n hx hb dX11_sentAll_17 rfl (lv_at hl 0 rfl) ?_
  refine lv_iadd hx hb dX11_sentAll_18 ?_
  refine lv_topi (fun z103 e104 => ?_)
  obtain rfl : z103 = (41 : Int32) := e104.trans (by decide)
  refine va_iald hx hb hK hP 1 1 rfl rfl (vp_in_nI (n := 41) (by decide) (by decide)) dX11_sentAll_19 ?_
  refine lv_topi (fun z105 e106 => ?_)
  obtain rfl : z105 = (0 : Int32) := e106.trans (by decide)
  refine lv_iadd hx hb dX11_sentAll_20 ?_
  refine lv_topi (fun z107 e108 => ?_)
  obtain rfl : z107 = (0 : Int32) := e108.trans (by decide)
  refine lv_istore_n (lv' := [(1, .int 0), (2, .int 17), (0, .ref m0)]) hx hb dX11_sentAll_21 rfl hl (by decide) rfl (fun ls hl => ?_)
  refine lv_iinc (v := 18) (lv' := [(2, .int 18), (1, .int 0), (0, .ref m0)]) hx hb dX11_sentAll_22 hl (k := 1) rfl (by decide) (by decide) rfl (fun ls hl => ?_)
  refine lv_goto (tgt := 4) hx hb dX11_sentAll_25 (by decide) ?_
  refine lv_iload_n hx hb dX11_sentAll_4 rfl (lv_at hl 0 rfl) ?_
  refine lv_bipush (v := 30) hx hb dX11_sentAll_5 (by decide) ?_
  refine lv_icmp_ge (tgt := 28) hx hb dX11_sentAll_7 (by decide) (fun c9 => absurd c9 (by decide)) (fun _ => ?_)
  refine lv_iload_n hx hb dX11_sentAll_10 rfl (lv_at hl 1 rfl) ?_
  refine lv_aload_n hx hb dX11_sentAll_11 rfl (lv_at hl 2 rfl) ?_
  refine va_get (D := (dC, dI)) (ci := 11) (v := .ref ynow) (C := RX11) (T := TX11) (N := 61) hx hb hts hin11 hown hK hP 0 rfl rfl 12 (by decide) (hts (.fieldLink RX11 60 "PathProberModel" "now" "[I") (List.mem_of_getElem? (i := 1) (by decide +kernel))) (fun _ h9 => h9) rfl dX11_sentAll_12 ?_
  refine lv_bipush (v := 24) hx hb dX11_sentAll_15 (by decide) ?_
  refine lv_iload_n hx hb dX11_sentAll_17 rfl (lv_at hl 0 rfl) ?_
  refine lv_iadd hx hb dX11_sentAll_18 ?_
  refine lv_topi (fun z109 e110 => ?_)
  obtain rfl : z109 = (42 : Int32) := e110.trans (by decide)
  refine va_iald hx hb hK hP 1 1 rfl rfl (vp_in_nI (n := 42) (by decide) (by decide)) dX11_sentAll_19 ?_
  refine lv_topi (fun z111 e112 => ?_)
  obtain rfl : z111 = (0 : Int32) := e112.trans (by decide)
  refine lv_iadd hx hb dX11_sentAll_20 ?_
  refine lv_topi (fun z113 e114 => ?_)
  obtain rfl : z113 = (0 : Int32) := e114.trans (by decide)
  refine lv_istore_n (lv' := [(1, .int 0), (2, .int 18), (0, .ref m0)]) hx hb dX11_sentAll_21 rfl hl (by decide) rfl (fun ls hl => ?_)
  refine lv_iinc (v := 19) (lv' := [(2, .int 19), (1, .int 0), (0, .ref m0)]) hx hb dX11_sentAll_22 hl (k := 1) rfl (by decide) (by decide) rfl (fun ls hl => ?_)
  refine lv_goto (tgt := 4) hx hb dX11_sentAll_25 (by decide) ?_
  refine lv_iload_n hx hb dX11_sentAll_4 rfl (lv_at hl 0 rfl) ?_
  refine lv_bipush (v := 30) hx hb dX11_sentAll_5 (by decide) ?_
  refine lv_icmp_ge (tgt := 28) hx hb dX11_sentAll_7 (by decide) (fun c9 => absurd c9 (by decide)) (fun _ => ?_)
  refine lv_iload_n hx hb dX11_sentAll_10 rfl (lv_at hl 1 rfl) ?_
  refine lv_aload_n hx hb dX11_sentAll_11 rfl (lv_at hl 2 rfl) ?_
  refine va_get (D := (dC, dI)) (ci := 11) (v := .ref ynow) (C := RX11) (T := TX11) (N := 61) hx hb hts hin11 hown hK hP 0 rfl rfl 12 (by decide) (hts (.fieldLink RX11 60 "PathProberModel" "now" "[I") (List.mem_of_getElem? (i := 1) (by decide +kernel))) (fun _ h9 => h9) rfl dX11_sentAll_12 ?_
  refine lv_bipush (v := 24) hx hb dX11_sentAll_15 (by decide) ?_
  refine lv_iload_n hx hb dX11_sentAll_17 rfl (lv_at hl 0 rfl) ?_
  refine lv_iadd hx hb dX11_sentAll_18 ?_
  refine lv_topi (fun z115 e116 => ?_)
  obtain rfl : z115 = (43 : Int32) := e116.trans (by decide)
  refine va_iald hx hb hK hP 1 1 rfl rfl (vp_in_nI (n := 43) (by decide) (by decide)) dX11_sentAll_19 ?_
  refine lv_topi (fun z117 e118 => ?_)
  obtain rfl : z117 = (0 : Int32) := e118.trans (by decide)
  refine lv_iadd hx hb dX11_sentAll_20 ?_
  refine lv_topi (fun z119 e120 => ?_)
  obtain rfl : z119 = (0 : Int32) := e120.trans (by decide)
  refine lv_istore_n (lv' := [(1, .int 0), (2, .int 19), (0, .ref m0)]) hx hb dX11_sentAll_21 rfl hl (by decide) rfl (fun ls hl => ?_)
  refine lv_iinc (v := 20) (lv' := [(2, .int 20), (1, .int 0), (0, .ref m0)]) hx hb dX11_sentAll_22 hl (k := 1) rfl (by decide) (by decide) rfl (fun ls hl => ?_)
  refine lv_goto (tgt := 4) hx hb dX11_sentAll_25 (by decide) ?_
  refine lv_iload_n hx hb dX11_sentAll_4 rfl (lv_at hl 0 rfl) ?_
  refine lv_bipush (v := 30) hx hb dX11_sentAll_5 (by decide) ?_
  refine lv_icmp_ge (tgt := 28) hx hb dX11_sentAll_7 (by decide) (fun c9 => absurd c9 (by decide)) (fun _ => ?_)
  refine lv_iload_n hx hb dX11_sentAll_10 rfl (lv_at hl 1 rfl) ?_
  refine lv_aload_n hx hb dX11_sentAll_11 rfl (lv_at hl 2 rfl) ?_
  refine va_get (D := (dC, dI)) (ci := 11) (v := .ref ynow) (C := RX11) (T := TX11) (N := 61) hx hb hts hin11 hown hK hP 0 rfl rfl 12 (by decide) (hts (.fieldLink RX11 60 "PathProberModel" "now" "[I") (List.mem_of_getElem? (i := 1) (by decide +kernel))) (fun _ h9 => h9) rfl dX11_sentAll_12 ?_
  refine lv_bipush (v := 24) hx hb dX11_sentAll_15 (by decide) ?_
  refine lv_iload_n hx hb dX11_sentAll_17 rfl (lv_at hl 0 rfl) ?_
  refine lv_iadd hx hb dX11_sentAll_18 ?_
  refine lv_topi (fun z121 e122 => ?_)
  obtain rfl : z121 = (44 : Int32) := e122.trans (by decide)
  refine va_iald hx hb hK hP 1 1 rfl rfl (vp_in_nI (n := 44) (by decide) (by decide)) dX11_sentAll_19 ?_
  refine lv_topi (fun z123 e124 => ?_)
  obtain rfl : z123 = (0 : Int32) := e124.trans (by decide)
  refine lv_iadd hx hb dX11_sentAll_20 ?_
  refine lv_topi (fun z125 e126 => ?_)
  obtain rfl : z125 = (0 : Int32) := e126.trans (by decide)
  refine lv_istore_n (lv' := [(1, .int 0), (2, .int 20), (0, .ref m0)]) hx hb dX11_sentAll_21 rfl hl (by decide) rfl (fun ls hl => ?_)
  refine lv_iinc (v := 21) (lv' := [(2, .int 21), (1, .int 0), (0, .ref m0)]) hx hb dX11_sentAll_22 hl (k := 1) rfl (by decide) (by decide) rfl (fun ls hl => ?_)
  refine lv_goto (tgt := 4) hx hb dX11_sentAll_25 (by decide) ?_
  refine lv_iload_n hx hb dX11_sentAll_4 rfl (lv_at hl 0 rfl) ?_
  refine lv_bipush (v := 30) hx hb dX11_sentAll_5 (by decide) ?_
  refine lv_icmp_ge (tgt := 28) hx hb dX11_sentAll_7 (by decide) (fun c9 => absurd c9 (by decide)) (fun _ => ?_)
  refine lv_iload_n hx hb dX11_sentAll_10 rfl (lv_at hl 1 rfl) ?_
  refine lv_aload_n hx hb dX11_sentAll_11 rfl (lv_at hl 2 rfl) ?_
  refine va_get (D := (dC, dI)) (ci := 11) (v := .ref ynow) (C := RX11) (T := TX11) (N := 61) hx hb hts hin11 hown hK hP 0 rfl rfl 12 (by decide) (hts (.fieldLink RX11 60 "PathProberModel" "now" "[I") (List.mem_of_getElem? (i := 1) (by decide +kernel))) (fun _ h9 => h9) rfl dX11_sentAll_12 ?_
  refine lv_bipush (v := 24) hx hb dX11_sentAll_15 (by decide) ?_
  refine lv_iload_n hx hb dX11_sentAll_17 rfl (lv_at hl 0 rfl) ?_
  refine lv_iadd hx hb dX11_sentAll_18 ?_
  refine lv_topi (fun z127 e128 => ?_)
  obtain rfl : z127 = (45 : Int32) := e128.trans (by decide)
  refine va_iald hx hb hK hP 1 1 rfl rfl (vp_in_nI (n := 45) (by decide) (by decide)) dX11_sentAll_19 ?_
  refine lv_topi (fun z129 e130 => ?_)
  obtain rfl : z129 = (0 : Int32) := e130.trans (by decide)
  refine lv_iadd hx hb dX11_sentAll_20 ?_
  refine lv_topi (fun z131 e132 => ?_)
  obtain rfl : z131 = (0 : Int32) := e132.trans (by decide)
  refine lv_istore_n (lv' := [(1, .int 0), (2, .int 21), (0, .ref m0)]) hx hb dX11_sentAll_21 rfl hl (by decide) rfl (fun ls hl => ?_)
  refine lv_iinc (v := 22) (lv' := [(2, .int 22), (1, .int 0), (0, .ref m0)]) hx hb dX11_sentAll_22 hl (k := 1) rfl (by decide) (by decide) rfl (fun ls hl => ?_)
  refine lv_goto (tgt := 4) hx hb dX11_sentAll_25 (by decide) ?_
  refine lv_iload_n hx hb dX11_sentAll_4 rfl (lv_at hl 0 rfl) ?_
  refine lv_bipush (v := 30) hx hb dX11_sentAll_5 (by decide) ?_
  refine lv_icmp_ge (tgt := 28) hx hb dX11_sentAll_7 (by decide) (fun c9 => absurd c9 (by decide)) (fun _ => ?_)
  refine lv_iload_n hx hb dX11_sentAll_10 rfl (lv_at hl 1 rfl) ?_
  refine lv_aload_n hx hb dX11_sentAll_11 rfl (lv_at hl 2 rfl) ?_
  refine va_get (D := (dC, dI)) (ci := 11) (v := .ref ynow) (C := RX11) (T := TX11) (N := 61) hx hb hts hin11 hown hK hP 0 rfl rfl 12 (by decide) (hts (.fieldLink RX11 60 "PathProberModel" "now" "[I") (List.mem_of_getElem? (i := 1) (by decide +kernel))) (fun _ h9 => h9) rfl dX11_sentAll_12 ?_
  refine lv_bipush (v := 24) hx hb dX11_sentAll_15 (by decide) ?_
  refine lv_iload_n hx hb dX11_sentAll_17 rfl (lv_at hl 0 rfl) ?_
  refine lv_iadd hx hb dX11_sentAll_18 ?_
  refine lv_topi (fun z133 e134 => ?_)
  obtain rfl : z133 = (46 : Int32) := e134.trans (by decide)
  refine va_iald hx hb hK hP 1 1 rfl rfl (vp_in_nI (n := 46) (by decide) (by decide)) dX11_sentAll_19 ?_
  refine lv_topi (fun z135 e136 => ?_)
  obtain rfl : z135 = (0 : Int32) := e136.trans (by decide)
  refine lv_iadd hx hb dX11_sentAll_20 ?_
  refine lv_topi (fun z137 e138 => ?_)
  obtain rfl : z137 = (0 : Int32) := e138.trans (by decide)
  refine lv_istore_n (lv' := [(1, .int 0), (2, .int 22), (0, .ref m0)]) hx hb dX11_sentAll_21 rfl hl (by decide) rfl (fun ls hl => ?_)
  refine lv_iinc (v := 23) (lv' := [(2, .int 23), (1, .int 0), (0, .ref m0)]) hx hb dX11_sentAll_22 hl (k := 1) rfl (by decide) (by decide) rfl (fun ls hl => ?_)
  refine lv_goto (tgt := 4) hx hb dX11_sentAll_25 (by decide) ?_
  refine lv_iload_n hx hb dX11_sentAll_4 rfl (lv_at hl 0 rfl) ?_
  refine lv_bipush (v := 30) hx hb dX11_sentAll_5 (by decide) ?_
  refine lv_icmp_ge (tgt := 28) hx hb dX11_sentAll_7 (by decide) (fun c9 => absurd c9 (by decide)) (fun _ => ?_)
  refine lv_iload_n hx hb dX11_sentAll_10 rfl (lv_at hl 1 rfl) ?_
  refine lv_aload_n hx hb dX11_sentAll_11 rfl (lv_at hl 2 rfl) ?_
  refine va_get (D := (dC, dI)) (ci := 11) (v := .ref ynow) (C := RX11) (T := TX11) (N := 61) hx hb hts hin11 hown hK hP 0 rfl rfl 12 (by decide) (hts (.fieldLink RX11 60 "PathProberModel" "now" "[I") (List.mem_of_getElem? (i := 1) (by decide +kernel))) (fun _ h9 => h9) rfl dX11_sentAll_12 ?_
  refine lv_bipush (v := 24) hx hb dX11_sentAll_15 (by decide) ?_
  refine lv_iload_n hx hb dX11_sentAll_17 rfl (lv_at hl 0 rfl) ?_
  refine lv_iadd hx hb dX11_sentAll_18 ?_
  refine lv_topi (fun z139 e140 => ?_)
  obtain rfl : z139 = (47 : Int32) := e140.trans (by decide)
  refine va_iald hx hb hK hP 1 1 rfl rfl (vp_in_nI (n := 47) (by decide) (by decide)) dX11_sentAll_19 ?_
  refine lv_topi (fun z141 e142 => ?_)
  obtain rfl : z141 = (0 : Int32) := e142.trans (by decide)
  refine lv_iadd hx hb dX11_sentAll_20 ?_
  refine lv_topi (fun z143 e144 => ?_)
  obtain rfl : z143 = (0 : Int32) := e144.trans (by decide)
  refine lv_istore_n (lv' := [(1, .int 0), (2, .int 23), (0, .ref m0)]) hx hb dX11_sentAll_21 rfl hl (by decide) rfl (fun ls hl => ?_)
  refine lv_iinc (v := 24) (lv' := [(2, .int 24), (1, .int 0), (0, .ref m0)]) hx hb dX11_sentAll_22 hl (k := 1) rfl (by decide) (by decide) rfl (fun ls hl => ?_)
  refine lv_goto (tgt := 4) hx hb dX11_sentAll_25 (by decide) ?_
  refine lv_iload_n hx hb dX11_sentAll_4 rfl (lv_at hl 0 rfl) ?_
  refine lv_bipush (v := 30) hx hb dX11_sentAll_5 (by decide) ?_
  refine lv_icmp_ge (tgt := 28) hx hb dX11_sentAll_7 (by decide) (fun c9 => absurd c9 (by decide)) (fun _ => ?_)
  refine lv_iload_n hx hb dX11_sentAll_10 rfl (lv_at hl 1 rfl) ?_
  refine lv_aload_n hx hb dX11_sentAll_11 rfl (lv_at hl 2 rfl) ?_
  refine va_get (D := (dC, dI)) (ci := 11) (v := .ref ynow) (C := RX11) (T := TX11) (N := 61) hx hb hts hin11 hown hK hP 0 rfl rfl 12 (by decide) (hts (.fieldLink RX11 60 "PathProberModel" "now" "[I") (List.mem_of_getElem? (i := 1) (by decide +kernel))) (fun _ h9 => h9) rfl dX11_sentAll_12 ?_
  refine lv_bipush (v := 24) hx hb dX11_sentAll_15 (by decide) ?_
  refine lv_iload_n hx hb dX11_sentAll_17 rfl (lv_at hl 0 rfl) ?_
  refine lv_iadd hx hb dX11_sentAll_18 ?_
  refine lv_topi (fun z145 e146 => ?_)
  obtain rfl : z145 = (48 : Int32) := e146.trans (by decide)
  refine va_iald hx hb hK hP 1 1 rfl rfl (vp_in_nI (n := 48) (by decide) (by decide)) dX11_sentAll_19 ?_
  refine lv_topi (fun z147 e148 => ?_)
  obtain rfl : z147 = (0 : Int32) := e148.trans (by decide)
  refine lv_iadd hx hb dX11_sentAll_20 ?_
  refine lv_topi (fun z149 e150 => ?_)
  obtain rfl : z149 = (0 : Int32) := e150.trans (by decide)
  refine lv_istore_n (lv' := [(1, .int 0), (2, .int 24), (0, .ref m0)]) hx hb dX11_sentAll_21 rfl hl (by decide) rfl (fun ls hl => ?_)
  refine lv_iinc (v := 25) (lv' := [(2, .int 25), (1, .int 0), (0, .ref m0)]) hx hb dX11_sentAll_22 hl (k := 1) rfl (by decide) (by decide) rfl (fun ls hl => ?_)
  refine lv_goto (tgt := 4) hx hb dX11_sentAll_25 (by decide) ?_
  refine lv_iload_n hx hb dX11_sentAll_4 rfl (lv_at hl 0 rfl) ?_
  refine lv_bipush (v := 30) hx hb dX11_sentAll_5 (by decide) ?_
  refine lv_icmp_ge (tgt := 28) hx hb dX11_sentAll_7 (by decide) (fun c9 => absurd c9 (by decide)) (fun _ => ?_)
  refine lv_iload_n hx hb dX11_sentAll_10 rfl (lv_at hl 1 rfl) ?_
  refine lv_aload_n hx hb dX11_sentAll_11 rfl (lv_at hl 2 rfl) ?_
  refine va_get (D := (dC, dI)) (ci := 11) (v := .ref ynow) (C := RX11) (T := TX11) (N := 61) hx hb hts hin11 hown hK hP 0 rfl rfl 12 (by decide) (hts (.fieldLink RX11 60 "PathProberModel" "now" "[I") (List.mem_of_getElem? (i := 1) (by decide +kernel))) (fun _ h9 => h9) rfl dX11_sentAll_12 ?_
  refine lv_bipush (v := 24) hx hb dX11_sentAll_15 (by decide) ?_
  refine lv_iload_n hx hb dX11_sentAll_17 rfl (lv_at hl 0 rfl) ?_
  refine lv_iadd hx hb dX11_sentAll_18 ?_
  refine lv_topi (fun z151 e152 => ?_)
  obtain rfl : z151 = (49 : Int32) := e152.trans (by decide)
  refine va_iald hx hb hK hP 1 1 rfl rfl (vp_in_nI (n := 49) (by decide) (by decide)) dX11_sentAll_19 ?_
  refine lv_topi (fun z153 e154 => ?_)
  obtain rfl : z153 = (0 : Int32) := e154.trans (by decide)
  refine lv_iadd hx hb dX11_sentAll_20 ?_
  refine lv_topi (fun z155 e156 => ?_)
  obtain rfl : z155 = (0 : Int32) := e156.trans (by decide)
  refine lv_istore_n (lv' := [(1, .int 0), (2, .int 25), (0, .ref m0)]) hx hb dX11_sentAll_21 rfl hl (by decide) rfl (fun ls hl => ?_)
  refine lv_iinc (v := 26) (lv' := [(2, .int 26), (1, .int 0), (0, .ref m0)]) hx hb dX11_sentAll_22 hl (k := 1) rfl (by decide) (by decide) rfl (fun ls hl => ?_)
  refine lv_goto (tgt := 4) hx hb dX11_sentAll_25 (by decide) ?_
  refine lv_iload_n hx hb dX11_sentAll_4 rfl (lv_at hl 0 rfl) ?_
  refine lv_bipush (v := 30) hx hb dX11_sentAll_5 (by decide) ?_
  refine lv_icmp_ge (tgt := 28) hx hb dX11_sentAll_7 (by decide) (fun c9 => absurd c9 (by decide)) (fun _ => ?_)
  refine lv_iload_n hx hb dX11_sentAll_10 rfl (lv_at hl 1 rfl) ?_
  refine lv_aload_n hx hb dX11_sentAll_11 rfl (lv_at hl 2 rfl) ?_
  refine va_get (D := (dC, dI)) (ci := 11) (v := .ref ynow) (C := RX11) (T := TX11) (N := 61) hx hb hts hin11 hown hK hP 0 rfl rfl 12 (by decide) (hts (.fieldLink RX11 60 "PathProberModel" "now" "[I") (List.mem_of_getElem? (i := 1) (by decide +kernel))) (fun _ h9 => h9) rfl dX11_sentAll_12 ?_
  refine lv_bipush (v := 24) hx hb dX11_sentAll_15 (by decide) ?_
  refine lv_iload_n hx hb dX11_sentAll_17 rfl (lv_at hl 0 rfl) ?_
  refine lv_iadd hx hb dX11_sentAll_18 ?_
  refine lv_topi (fun z157 e158 => ?_)
  obtain rfl : z157 = (50 : Int32) := e158.trans (by decide)
  refine va_iald hx hb hK hP 1 1 rfl rfl (vp_in_nI (n := 50) (by decide) (by decide)) dX11_sentAll_19 ?_
  refine lv_topi (fun z159 e160 => ?_)
  obtain rfl : z159 = (0 : Int32) := e160.trans (by decide)
  refine lv_iadd hx hb dX11_sentAll_20 ?_
  refine lv_topi (fun z161 e162 => ?_)
  obtain rfl : z161 = (0 : Int32) := e162.trans (by decide)
  refine lv_istore_n (lv' := [(1, .int 0), (2, .int 26), (0, .ref m0)]) hx hb dX11_sentAll_21 rfl hl (by decide) rfl (fun ls hl => ?_)
  refine lv_iinc (v := 27) (lv' := [(2, .int 27), (1, .int 0), (0, .ref m0)]) hx hb dX11_sentAll_22 hl (k := 1) rfl (by decide) (by decide) rfl (fun ls hl => ?_)
  refine lv_goto (tgt := 4) hx hb dX11_sentAll_25 (by decide) ?_
  refine lv_iload_n hx hb dX11_sentAll_4 rfl (lv_at hl 0 rfl) ?_
  refine lv_bipush (v := 30) hx hb dX11_sentAll_5 (by decide) ?_
  refine lv_icmp_ge (tgt := 28) hx hb dX11_sentAll_7 (by decide) (fun c9 => absurd c9 (by decide)) (fun _ => ?_)
  refine lv_iload_n hx hb dX11_sentAll_10 rfl (lv_at hl 1 rfl) ?_
  refine lv_aload_n hx hb dX11_sentAll_11 rfl (lv_at hl 2 rfl) ?_
  refine va_get (D := (dC, dI)) (ci := 11) (v := .ref ynow) (C := RX11) (T := TX11) (N := 61) hx hb hts hin11 hown hK hP 0 rfl rfl 12 (by decide) (hts (.fieldLink RX11 60 "PathProberModel" "now" "[I") (List.mem_of_getElem? (i := 1) (by decide +kernel))) (fun _ h9 => h9) rfl dX11_sentAll_12 ?_
  refine lv_bipush (v := 24) hx hb dX11_sentAll_15 (by decide) ?_
  refine lv_iload_n hx hb dX11_sentAll_17 rfl (lv_at hl 0 rfl) ?_
  refine lv_iadd hx hb dX11_sentAll_18 ?_
  refine lv_topi (fun z163 e164 => ?_)
  obtain rfl : z163 = (51 : Int32) := e164.trans (by decide)
  refine va_iald hx hb hK hP 1 1 rfl rfl (vp_in_nI (n := 51) (by decide) (by decide)) dX11_sentAll_19 ?_
  refine lv_topi (fun z165 e166 => ?_)
  obtain rfl : z165 = (0 : Int32) := e166.trans (by decide)
  refine lv_iadd hx hb dX11_sentAll_20 ?_
  refine lv_topi (fun z167 e168 => ?_)
  obtain rfl : z167 = (0 : Int32) := e168.trans (by decide)
  refine lv_istore_n (lv' := [(1, .int 0), (2, .int 27), (0, .ref m0)]) hx hb dX11_sentAll_21 rfl hl (by decide) rfl (fun ls hl => ?_)
  refine lv_iinc (v := 28) (lv' := [(2, .int 28), (1, .int 0), (0, .ref m0)]) hx hb dX11_sentAll_22 hl (k := 1) rfl (by decide) (by decide) rfl (fun ls hl => ?_)
  refine lv_goto (tgt := 4) hx hb dX11_sentAll_25 (by decide) ?_
  refine lv_iload_n hx hb dX11_sentAll_4 rfl (lv_at hl 0 rfl) ?_
  refine lv_bipush (v := 30) hx hb dX11_sentAll_5 (by decide) ?_
  refine lv_icmp_ge (tgt := 28) hx hb dX11_sentAll_7 (by decide) (fun c9 => absurd c9 (by decide)) (fun _ => ?_)
  refine lv_iload_n hx hb dX11_sentAll_10 rfl (lv_at hl 1 rfl) ?_
  refine lv_aload_n hx hb dX11_sentAll_11 rfl (lv_at hl 2 rfl) ?_
  refine va_get (D := (dC, dI)) (ci := 11) (v := .ref ynow) (C := RX11) (T := TX11) (N := 61) hx hb hts hin11 hown hK hP 0 rfl rfl 12 (by decide) (hts (.fieldLink RX11 60 "PathProberModel" "now" "[I") (List.mem_of_getElem? (i := 1) (by decide +kernel))) (fun _ h9 => h9) rfl dX11_sentAll_12 ?_
  refine lv_bipush (v := 24) hx hb dX11_sentAll_15 (by decide) ?_
  refine lv_iload_n hx hb dX11_sentAll_17 rfl (lv_at hl 0 rfl) ?_
  refine lv_iadd hx hb dX11_sentAll_18 ?_
  refine lv_topi (fun z169 e170 => ?_)
  obtain rfl : z169 = (52 : Int32) := e170.trans (by decide)
  refine va_iald hx hb hK hP 1 1 rfl rfl (vp_in_nI (n := 52) (by decide) (by decide)) dX11_sentAll_19 ?_
  refine lv_topi (fun z171 e172 => ?_)
  obtain rfl : z171 = (0 : Int32) := e172.trans (by decide)
  refine lv_iadd hx hb dX11_sentAll_20 ?_
  refine lv_topi (fun z173 e174 => ?_)
  obtain rfl : z173 = (0 : Int32) := e174.trans (by decide)
  refine lv_istore_n (lv' := [(1, .int 0), (2, .int 28), (0, .ref m0)]) hx hb dX11_sentAll_21 rfl hl (by decide) rfl (fun ls hl => ?_)
  refine lv_iinc (v := 29) (lv' := [(2, .int 29), (1, .int 0), (0, .ref m0)]) hx hb dX11_sentAll_22 hl (k := 1) rfl (by decide) (by decide) rfl (fun ls hl => ?_)
  refine lv_goto (tgt := 4) hx hb dX11_sentAll_25 (by decide) ?_
  refine lv_iload_n hx hb dX11_sentAll_4 rfl (lv_at hl 0 rfl) ?_
  refine lv_bipush (v := 30) hx hb dX11_sentAll_5 (by decide) ?_
  refine lv_icmp_ge (tgt := 28) hx hb dX11_sentAll_7 (by decide) (fun c9 => absurd c9 (by decide)) (fun _ => ?_)
  refine lv_iload_n hx hb dX11_sentAll_10 rfl (lv_at hl 1 rfl) ?_
  refine lv_aload_n hx hb dX11_sentAll_11 rfl (lv_at hl 2 rfl) ?_
  refine va_get (D := (dC, dI)) (ci := 11) (v := .ref ynow) (C := RX11) (T := TX11) (N := 61) hx hb hts hin11 hown hK hP 0 rfl rfl 12 (by decide) (hts (.fieldLink RX11 60 "PathProberModel" "now" "[I") (List.mem_of_getElem? (i := 1) (by decide +kernel))) (fun _ h9 => h9) rfl dX11_sentAll_12 ?_
  refine lv_bipush (v := 24) hx hb dX11_sentAll_15 (by decide) ?_
  refine lv_iload_n hx hb dX11_sentAll_17 rfl (lv_at hl 0 rfl) ?_
  refine lv_iadd hx hb dX11_sentAll_18 ?_
  refine lv_topi (fun z175 e176 => ?_)
  obtain rfl : z175 = (53 : Int32) := e176.trans (by decide)
  refine va_iald hx hb hK hP 1 1 rfl rfl (vp_in_nI (n := 53) (by decide) (by decide)) dX11_sentAll_19 ?_
  refine lv_topi (fun z177 e178 => ?_)
  obtain rfl : z177 = (0 : Int32) := e178.trans (by decide)
  refine lv_iadd hx hb dX11_sentAll_20 ?_
  refine lv_topi (fun z179 e180 => ?_)
  obtain rfl : z179 = (0 : Int32) := e180.trans (by decide)
  refine lv_istore_n (lv' := [(1, .int 0), (2, .int 29), (0, .ref m0)]) hx hb dX11_sentAll_21 rfl hl (by decide) rfl (fun ls hl => ?_)
  refine lv_iinc (v := 30) (lv' := [(2, .int 30), (1, .int 0), (0, .ref m0)]) hx hb dX11_sentAll_22 hl (k := 1) rfl (by decide) (by decide) rfl (fun ls hl => ?_)
  refine lv_goto (tgt := 4) hx hb dX11_sentAll_25 (by decide) ?_
  refine lv_iload_n hx hb dX11_sentAll_4 rfl (lv_at hl 0 rfl) ?_
  refine lv_bipush (v := 30) hx hb dX11_sentAll_5 (by decide) ?_
  refine lv_icmp_ge (tgt := 28) hx hb dX11_sentAll_7 (by decide) (fun _ => ?_) (fun c9 => absurd (by decide) c9)
  refine lv_iload_n hx hb dX11_sentAll_28 rfl (lv_at hl 1 rfl) ?_
  have hP9 := hP.sub (ws' := [(m0, .inr (11, [.ref ywords, .ref ykinds, .int 0, .ref ytold, .ref ykind, .ref ysalt, .ref ypace, .ref ymute, .ref ylate, .ref yfrom, .ref yto, .ref ygoal, .ref ynow, .ref ystatus, .ref ytape, .int 0, .int 0, .int 0, .int 0, .int 0, .int 0, .int 0, .int 0, .int 0, .int (-1), .ref yreach, .int (-1), .int 0, .int 0, .int 0, .int 0, .int 0, .ref ymet, .int 1, .ref ypast, .ref yisAt, .ref ywaysTo, .ref ywide, .ref ydiamondFrom, .ref ydiamondTo, .int 0, .int 0, .int 0, .int 0, .ref ynotedPort, .ref ynotedGoal, .ref ynotedHop, .ref ynotedAddress, .ref yfitting, .int 0, .ref yrowThen, .int 0, .int 0, .int 0, .ref yimageRow, .ref ypastThen, .ref ynotedPortThen, .ref ynotedGoalThen, .ref ynotedHopThen, .ref ynotedAddressThen, .ref ystatusThen])), (ynow, .inl (kI, 1019, .inl (upd (fun _ => 0) 54 5)))]) [0, 1] rfl
  have hD9 := hD.sub (ws' := [(m0, .inr (11, [.ref ywords, .ref ykinds, .int 0, .ref ytold, .ref ykind, .ref ysalt, .ref ypace, .ref ymute, .ref ylate, .ref yfrom, .ref yto, .ref ygoal, .ref ynow, .ref ystatus, .ref ytape, .int 0, .int 0, .int 0, .int 0, .int 0, .int 0, .int 0, .int 0, .int 0, .int (-1), .ref yreach, .int (-1), .int 0, .int 0, .int 0, .int 0, .int 0, .ref ymet, .int 1, .ref ypast, .ref yisAt, .ref ywaysTo, .ref ywide, .ref ydiamondFrom, .ref ydiamondTo, .int 0, .int 0, .int 0, .int 0, .ref ynotedPort, .ref ynotedGoal, .ref ynotedHop, .ref ynotedAddress, .ref yfitting, .int 0, .ref yrowThen, .int 0, .int 0, .int 0, .ref yimageRow, .ref ypastThen, .ref ynotedPortThen, .ref ynotedGoalThen, .ref ynotedHopThen, .ref ynotedAddressThen, .ref ystatusThen])), (ynow, .inl (kI, 1019, .inl (upd (fun _ => 0) 54 5)))]) [0, 1] (by decide) rfl
  exact W.iret (v := 0) hx hb hr (fun t ht hW => ⟨⟨0, (), rfl, rfl, by rw [ht]; exact hP9, hD9⟩, hS.F ht⟩) hS.2.2 dX11_sentAll_29
def rm_k11_copyTo_1019 : Room := { frames := 0, cells := 0, slots := 0, locals := 0 }
set_option maxHeartbeats 4000000 in
set_option maxRecDepth 100000 in
theorem k11_copyTo_1019 (l : Launch) (dC : Nat → ClassId) (dI : Nat → Nat → Nat) (kB kI kJ kZ kC kS : ClassId) (sz : Nat) (ca : Nat) (cb : Nat) (f1 : Nat → Int32) (f2 : Nat → Int32) : Met l yX11_copyTo wsX11_copyTo rm_k11_copyTo_1019 (va_Pc [.ref ca, .ref cb] (fun U => U.heap.size = sz ∧ va_P (dC, dI) vwCl [(ca, .inl (kI, 1019, .inl f1)), (cb, .inl (kI, 1019, .inl f2))] U.heap ∧ kE dC dI kB kI kJ kZ kC kS U ∧ va_D (fun _ => True) [(ca, .inl (kI, 1019, .inl f1)), (cb, .inl (kI, 1019, .inl f2))])) (va_Qv (fun (_ : Unit) => True) (fun _ t => ∃ (g1 : Nat → Int32), va_P (dC, dI) vwCl [(ca, .inl (kI, 1019, .inl g1)), (cb, .inl (kI, 1019, .inl f2))] t.heap ∧ va_D (va_A [(ca, .inl (kI, 1019, .inl f1)), (cb, .inl (kI, 1019, .inl f2))] sz) [(ca, .inl (kI, 1019, .inl g1)), (cb, .inl (kI, 1019, .inl f2))]) (va_A [(ca, .inl (kI, 1019, .inl f1)), (cb, .inl (kI, 1019, .inl f2))] sz)) 0 0 (va_A [(ca, .inl (kI, 1019, .inl f1)), (cb, .inl (kI, 1019, .inl f2))] sz) := by
  refine Met.ofW (cc := cX11_copyTo) (maxL := 3) (ret := none) (by decide) rfl ?_
  intro p e s m args0 below meth c s₁ B hml hv
  obtain ⟨hargs, hsz, hP, hE, hD0⟩ := hv
  have hx := B.exec
  have hb := B.bytes
  have hr := B.returns
  have hts := atoms_spec (ws := wsX11_copyTo) B.pre
  have hown : s.vm.findClass RX11 = some m.cls := findClass_of_methodNamed B.named
  have hlocks := B.notSynchronized
  have hK := hE.1
  subst hsz
  have hD := hD0.self (sz := s.heap.size)
  generalize hAe : va_A [(ca, .inl (kI, 1019, .inl f1)), (cb, .inl (kI, 1019, .inl f2))] s.heap.size = A at hD ⊢
  have hA : ∀ q : Nat, s.heap.size ≤ q → A q := fun q h => by rw [← hAe]; exact Or.inr h
  have hS : va_S A s.heap s.heap [] := va_S.rf
  have hP : va_P (dC, dI) vwCl [(ca, .inl (kI, 1019, .inl f1)), (cb, .inl (kI, 1019, .inl f2))] s.heap := hP
  have hl := lv_entry ([.ref ca, .ref cb]) (n := 3) (Nat.le_of_ble_eq_true rfl)
  have hla : entryFrame m args0 3 = entryFrame m ([.ref ca, .ref cb] : List Value).toArray 3 := by rw [hargs]
  rw [hla, lg_entry_eq]
  generalize (lg_sl ([.ref ca, .ref cb]) ++ List.replicate (3 - (lg_sl ([.ref ca, .ref cb])).length) Slot.unset).toArray = ls at hl ⊢
  have hl : lv_has ls 3 [(0, .ref ca), (1, .ref cb)] := hl
  refine lv_iconst (v := 0) hx hb dX11_copyTo_0 (by decide) ?_
  refine lv_istore_n (lv' := [(2, .int 0), (0, .ref ca), (1, .ref cb)]) hx hb dX11_copyTo_1 rfl hl (by decide) rfl (fun ls hl => ?_)
  have hloop2 : ∀ (n : Nat) (i : Nat) (a1f : Nat → Int32) (H : Heap) (locs : List Loc) (ls : Array Slot), i + n = 1019 → va_P (dC, dI) vwCl [(ca, .inl (kI, 1019, .inl a1f)), (cb, .inl (kI, 1019, .inl f2))] H → va_D A [(ca, .inl (kI, 1019, .inl a1f)), (cb, .inl (kI, 1019, .inl f2))] → va_S A s.heap H locs → lv_has ls 3 [(2, .int (nI i)), (0, .ref ca), (1, .ref cb)] → W p l e (headSpec wsX11_copyTo rm_k11_copyTo_1019).room s m args0 below meth c H locs 0 0 (MQ below (va_Qv (fun (_ : Unit) => True) (fun _ t => ∃ (g1 : Nat → Int32), va_P (dC, dI) vwCl [(ca, .inl (kI, 1019, .inl g1)), (cb, .inl (kI, 1019, .inl f2))] t.heap ∧ va_D A [(ca, .inl (kI, 1019, .inl g1)), (cb, .inl (kI, 1019, .inl f2))]) A) args0 s 0 0 A) (F0 m 2 ls []) := by
    intro n
    induction n with
    | zero =>
      intro i a1f H locs ls hi hP hD hS hl
      refine lv_iload_n hx hb dX11_copyTo_2 rfl (lv_at hl 0 rfl) ?_
      refine lv_aload_n hx hb dX11_copyTo_3 rfl (lv_at hl 1 rfl) ?_
      refine va_alen (v := 1019) hx hb hK hP 0 1 rfl rfl rfl dX11_copyTo_4 ?_
      refine lv_icmp_ge (tgt := 20) hx hb dX11_copyTo_5 (by decide) (fun _ => ?_) (fun c9 => absurd (by have h9 : i = 1019 := (by omega); subst h9; decide) c9)
      have hP9 := hP.sub (ws' := [(ca, .inl (kI, 1019, .inl a1f)), (cb, .inl (kI, 1019, .inl f2))]) [0, 1] rfl
      have hD9 := hD.sub (ws' := [(ca, .inl (kI, 1019, .inl a1f)), (cb, .inl (kI, 1019, .inl f2))]) [0, 1] (by decide) rfl
      exact W.vret hx hb hr (fun t ht hW => ⟨⟨(), rfl, trivial, a1f, by rw [ht]; exact hP9, hD9⟩, hS.F ht⟩) hS.2.2 dX11_copyTo_20
    | succ n ih =>
      intro i a1f H locs ls hi hP hD hS hl
      refine lv_iload_n hx hb dX11_copyTo_2 rfl (lv_at hl 0 rfl) ?_
      refine lv_aload_n hx hb dX11_copyTo_3 rfl (lv_at hl 1 rfl) ?_
      refine va_alen (v := 1019) hx hb hK hP 0 1 rfl rfl rfl dX11_copyTo_4 ?_
      refine lv_icmp_ge (tgt := 20) hx hb dX11_copyTo_5 (by decide) (fun c9 => absurd c9 (nI_ge (a := i) (b := 1019) (by omega) (by decide))) (fun _ => ?_)
      refine lv_aload_n hx hb dX11_copyTo_8 rfl (lv_at hl 1 rfl) ?_
      refine lv_iload_n hx hb dX11_copyTo_9 rfl (lv_at hl 0 rfl) ?_
      refine lv_aload_n hx hb dX11_copyTo_10 rfl (lv_at hl 2 rfl) ?_
      refine lv_iload_n hx hb dX11_copyTo_11 rfl (lv_at hl 0 rfl) ?_
      refine va_iald hx hb hK hP 1 1 rfl rfl (vp_in_nI (by omega) (by decide)) dX11_copyTo_12 ?_
      refine va_iast hx hb hK hP hD hS 0 1 rfl rfl (vp_in_nI (by omega) (by decide)) dX11_copyTo_13 (fun H locs hP hD hS => ?_)
      have hP : va_P (dC, dI) vwCl [(ca, .inl (kI, 1019, .inl (upd a1f (nI i).toNatClampNeg (f2 (nI i).toNatClampNeg)))), (cb, .inl (kI, 1019, .inl f2))] H := hP
      have hD : va_D A [(ca, .inl (kI, 1019, .inl (upd a1f (nI i).toNatClampNeg (f2 (nI i).toNatClampNeg)))), (cb, .inl (kI, 1019, .inl f2))] := hD
      refine lv_iinc (v := nI (i + 1)) (lv' := [(2, .int (nI (i + 1))), (0, .ref ca), (1, .ref cb)]) hx hb dX11_copyTo_14 hl (k := 0) rfl (nI_1 i) (by decide) rfl (fun ls hl => ?_)
      refine lv_goto (tgt := 2) hx hb dX11_copyTo_17 (by decide) ?_
      exact ih (i + 1) (upd a1f (nI i).toNatClampNeg (f2 (nI i).toNatClampNeg)) _ _ _ (by omega) (hP.sub [0, 1] rfl) (hD.sub [0, 1] (by decide) rfl) hS (lv_sub hl [0, 1, 2] rfl)
  exact hloop2 1019 0 f1 _ _ _ (Nat.zero_add _) hP hD hS (lv_sub hl [0, 1, 2] rfl)
def rm_k11_copyTo_40760 : Room := { frames := 0, cells := 0, slots := 0, locals := 0 }
set_option maxHeartbeats 4000000 in
set_option maxRecDepth 100000 in
theorem k11_copyTo_40760 (l : Launch) (dC : Nat → ClassId) (dI : Nat → Nat → Nat) (kB kI kJ kZ kC kS : ClassId) (sz : Nat) (ca : Nat) (cb : Nat) (f1 : Nat → Int32) (f2 : Nat → Int32) : Met l yX11_copyTo wsX11_copyTo rm_k11_copyTo_40760 (va_Pc [.ref ca, .ref cb] (fun U => U.heap.size = sz ∧ va_P (dC, dI) vwCl [(ca, .inl (kI, 40760, .inl f1)), (cb, .inl (kI, 40760, .inl f2))] U.heap ∧ kE dC dI kB kI kJ kZ kC kS U ∧ va_D (fun _ => True) [(ca, .inl (kI, 40760, .inl f1)), (cb, .inl (kI, 40760, .inl f2))])) (va_Qv (fun (_ : Unit) => True) (fun _ t => ∃ (g1 : Nat → Int32), va_P (dC, dI) vwCl [(ca, .inl (kI, 40760, .inl g1)), (cb, .inl (kI, 40760, .inl f2))] t.heap ∧ va_D (va_A [(ca, .inl (kI, 40760, .inl f1)), (cb, .inl (kI, 40760, .inl f2))] sz) [(ca, .inl (kI, 40760, .inl g1)), (cb, .inl (kI, 40760, .inl f2))]) (va_A [(ca, .inl (kI, 40760, .inl f1)), (cb, .inl (kI, 40760, .inl f2))] sz)) 0 0 (va_A [(ca, .inl (kI, 40760, .inl f1)), (cb, .inl (kI, 40760, .inl f2))] sz) := by
  refine Met.ofW (cc := cX11_copyTo) (maxL := 3) (ret := none) (by decide) rfl ?_
  intro p e s m args0 below meth c s₁ B hml hv
  obtain ⟨hargs, hsz, hP, hE, hD0⟩ := hv
  have hx := B.exec
  have hb := B.bytes
  have hr := B.returns
  have hts := atoms_spec (ws := wsX11_copyTo) B.pre
  have hown : s.vm.findClass RX11 = some m.cls := findClass_of_methodNamed B.named
  have hlocks := B.notSynchronized
  have hK := hE.1
  subst hsz
  have hD := hD0.self (sz := s.heap.size)
  generalize hAe : va_A [(ca, .inl (kI, 40760, .inl f1)), (cb, .inl (kI, 40760, .inl f2))] s.heap.size = A at hD ⊢
  have hA : ∀ q : Nat, s.heap.size ≤ q → A q := fun q h => by rw [← hAe]; exact Or.inr h
  have hS : va_S A s.heap s.heap [] := va_S.rf
  have hP : va_P (dC, dI) vwCl [(ca, .inl (kI, 40760, .inl f1)), (cb, .inl (kI, 40760, .inl f2))] s.heap := hP
  have hl := lv_entry ([.ref ca, .ref cb]) (n := 3) (Nat.le_of_ble_eq_true rfl)
  have hla : entryFrame m args0 3 = entryFrame m ([.ref ca, .ref cb] : List Value).toArray 3 := by rw [hargs]
  rw [hla, lg_entry_eq]
  generalize (lg_sl ([.ref ca, .ref cb]) ++ List.replicate (3 - (lg_sl ([.ref ca, .ref cb])).length) Slot.unset).toArray = ls at hl ⊢
  have hl : lv_has ls 3 [(0, .ref ca), (1, .ref cb)] := hl
  refine lv_iconst (v := 0) hx hb dX11_copyTo_0 (by decide) ?_
  refine lv_istore_n (lv' := [(2, .int 0), (0, .ref ca), (1, .ref cb)]) hx hb dX11_copyTo_1 rfl hl (by decide) rfl (fun ls hl => ?_)
  have hloop2 : ∀ (n : Nat) (i : Nat) (a1f : Nat → Int32) (H : Heap) (locs : List Loc) (ls : Array Slot), i + n = 40760 → va_P (dC, dI) vwCl [(ca, .inl (kI, 40760, .inl a1f)), (cb, .inl (kI, 40760, .inl f2))] H → va_D A [(ca, .inl (kI, 40760, .inl a1f)), (cb, .inl (kI, 40760, .inl f2))] → va_S A s.heap H locs → lv_has ls 3 [(2, .int (nI i)), (0, .ref ca), (1, .ref cb)] → W p l e (headSpec wsX11_copyTo rm_k11_copyTo_40760).room s m args0 below meth c H locs 0 0 (MQ below (va_Qv (fun (_ : Unit) => True) (fun _ t => ∃ (g1 : Nat → Int32), va_P (dC, dI) vwCl [(ca, .inl (kI, 40760, .inl g1)), (cb, .inl (kI, 40760, .inl f2))] t.heap ∧ va_D A [(ca, .inl (kI, 40760, .inl g1)), (cb, .inl (kI, 40760, .inl f2))]) A) args0 s 0 0 A) (F0 m 2 ls []) := by
    intro n
    induction n with
    | zero =>
      intro i a1f H locs ls hi hP hD hS hl
      refine lv_iload_n hx hb dX11_copyTo_2 rfl (lv_at hl 0 rfl) ?_
      refine lv_aload_n hx hb dX11_copyTo_3 rfl (lv_at hl 1 rfl) ?_
      refine va_alen (v := 40760) hx hb hK hP 0 1 rfl rfl rfl dX11_copyTo_4 ?_
      refine lv_icmp_ge (tgt := 20) hx hb dX11_copyTo_5 (by decide) (fun _ => ?_) (fun c9 => absurd (by have h9 : i = 40760 := (by omega); subst h9; decide) c9)
      have hP9 := hP.sub (ws' := [(ca, .inl (kI, 40760, .inl a1f)), (cb, .inl (kI, 40760, .inl f2))]) [0, 1] rfl
      have hD9 := hD.sub (ws' := [(ca, .inl (kI, 40760, .inl a1f)), (cb, .inl (kI, 40760, .inl f2))]) [0, 1] (by decide) rfl
      exact W.vret hx hb hr (fun t ht hW => ⟨⟨(), rfl, trivial, a1f, by rw [ht]; exact hP9, hD9⟩, hS.F ht⟩) hS.2.2 dX11_copyTo_20
    | succ n ih =>
      intro i a1f H locs ls hi hP hD hS hl
      refine lv_iload_n hx hb dX11_copyTo_2 rfl (lv_at hl 0 rfl) ?_
      refine lv_aload_n hx hb dX11_copyTo_3 rfl (lv_at hl 1 rfl) ?_
      refine va_alen (v := 40760) hx hb hK hP 0 1 rfl rfl rfl dX11_copyTo_4 ?_
      refine lv_icmp_ge (tgt := 20) hx hb dX11_copyTo_5 (by decide) (fun c9 => absurd c9 (nI_ge (a := i) (b := 40760) (by omega) (by decide))) (fun _ => ?_)
      refine lv_aload_n hx hb dX11_copyTo_8 rfl (lv_at hl 1 rfl) ?_
      refine lv_iload_n hx hb dX11_copyTo_9 rfl (lv_at hl 0 rfl) ?_
      refine lv_aload_n hx hb dX11_copyTo_10 rfl (lv_at hl 2 rfl) ?_
      refine lv_iload_n hx hb dX11_copyTo_11 rfl (lv_at hl 0 rfl) ?_
      refine va_iald hx hb hK hP 1 1 rfl rfl (vp_in_nI (by omega) (by decide)) dX11_copyTo_12 ?_
      refine va_iast hx hb hK hP hD hS 0 1 rfl rfl (vp_in_nI (by omega) (by decide)) dX11_copyTo_13 (fun H locs hP hD hS => ?_)
      have hP : va_P (dC, dI) vwCl [(ca, .inl (kI, 40760, .inl (upd a1f (nI i).toNatClampNeg (f2 (nI i).toNatClampNeg)))), (cb, .inl (kI, 40760, .inl f2))] H := hP
      have hD : va_D A [(ca, .inl (kI, 40760, .inl (upd a1f (nI i).toNatClampNeg (f2 (nI i).toNatClampNeg)))), (cb, .inl (kI, 40760, .inl f2))] := hD
      refine lv_iinc (v := nI (i + 1)) (lv' := [(2, .int (nI (i + 1))), (0, .ref ca), (1, .ref cb)]) hx hb dX11_copyTo_14 hl (k := 0) rfl (nI_1 i) (by decide) rfl (fun ls hl => ?_)
      refine lv_goto (tgt := 2) hx hb dX11_copyTo_17 (by decide) ?_
      exact ih (i + 1) (upd a1f (nI i).toNatClampNeg (f2 (nI i).toNatClampNeg)) _ _ _ (by omega) (hP.sub [0, 1] rfl) (hD.sub [0, 1] (by decide) rfl) hS (lv_sub hl [0, 1, 2] rfl)
  exact hloop2 40760 0 f1 _ _ _ (Nat.zero_add _) hP hD hS (lv_sub hl [0, 1, 2] rfl)
def rm_k11_copyTo_8 : Room := { frames := 0, cells := 0, slots := 0, locals := 0 }
set_option maxHeartbeats 4000000 in
set_option maxRecDepth 100000 in
theorem k11_copyTo_8 (l : Launch) (dC : Nat → ClassId) (dI : Nat → Nat → Nat) (kB kI kJ kZ kC kS : ClassId) (sz : Nat) (ca : Nat) (cb : Nat) (f1 : Nat → Int32) (f2 : Nat → Int32) : Met l yX11_copyTo wsX11_copyTo rm_k11_copyTo_8 (va_Pc [.ref ca, .ref cb] (fun U => U.heap.size = sz ∧ va_P (dC, dI) vwCl [(ca, .inl (kI, 8, .inl f1)), (cb, .inl (kI, 8, .inl f2))] U.heap ∧ kE dC dI kB kI kJ kZ kC kS U ∧ va_D (fun _ => True) [(ca, .inl (kI, 8, .inl f1)), (cb, .inl (kI, 8, .inl f2))])) (va_Qv (fun (_ : Unit) => True) (fun _ t => ∃ (g1 : Nat → Int32), va_P (dC, dI) vwCl [(ca, .inl (kI, 8, .inl g1)), (cb, .inl (kI, 8, .inl f2))] t.heap ∧ va_D (va_A [(ca, .inl (kI, 8, .inl f1)), (cb, .inl (kI, 8, .inl f2))] sz) [(ca, .inl (kI, 8, .inl g1)), (cb, .inl (kI, 8, .inl f2))]) (va_A [(ca, .inl (kI, 8, .inl f1)), (cb, .inl (kI, 8, .inl f2))] sz)) 0 0 (va_A [(ca, .inl (kI, 8, .inl f1)), (cb, .inl (kI, 8, .inl f2))] sz) := by
  refine Met.ofW (cc := cX11_copyTo) (maxL := 3) (ret := none) (by decide) rfl ?_
  intro p e s m args0 below meth c s₁ B hml hv
  obtain ⟨hargs, hsz, hP, hE, hD0⟩ := hv
  have hx := B.exec
  have hb := B.bytes
  have hr := B.returns
  have hts := atoms_spec (ws := wsX11_copyTo) B.pre
  have hown : s.vm.findClass RX11 = some m.cls := findClass_of_methodNamed B.named
  have hlocks := B.notSynchronized
  have hK := hE.1
  subst hsz
  have hD := hD0.self (sz := s.heap.size)
  generalize hAe : va_A [(ca, .inl (kI, 8, .inl f1)), (cb, .inl (kI, 8, .inl f2))] s.heap.size = A at hD ⊢
  have hA : ∀ q : Nat, s.heap.size ≤ q → A q := fun q h => by rw [← hAe]; exact Or.inr h
  have hS : va_S A s.heap s.heap [] := va_S.rf
  have hP : va_P (dC, dI) vwCl [(ca, .inl (kI, 8, .inl f1)), (cb, .inl (kI, 8, .inl f2))] s.heap := hP
  have hl := lv_entry ([.ref ca, .ref cb]) (n := 3) (Nat.le_of_ble_eq_true rfl)
  have hla : entryFrame m args0 3 = entryFrame m ([.ref ca, .ref cb] : List Value).toArray 3 := by rw [hargs]
  rw [hla, lg_entry_eq]
  generalize (lg_sl ([.ref ca, .ref cb]) ++ List.replicate (3 - (lg_sl ([.ref ca, .ref cb])).length) Slot.unset).toArray = ls at hl ⊢
  have hl : lv_has ls 3 [(0, .ref ca), (1, .ref cb)] := hl
  refine lv_iconst (v := 0) hx hb dX11_copyTo_0 (by decide) ?_
  refine lv_istore_n (lv' := [(2, .int 0), (0, .ref ca), (1, .ref cb)]) hx hb dX11_copyTo_1 rfl hl (by decide) rfl (fun ls hl => ?_)
  have hloop2 : ∀ (n : Nat) (i : Nat) (a1f : Nat → Int32) (H : Heap) (locs : List Loc) (ls : Array Slot), i + n = 8 → va_P (dC, dI) vwCl [(ca, .inl (kI, 8, .inl a1f)), (cb, .inl (kI, 8, .inl f2))] H → va_D A [(ca, .inl (kI, 8, .inl a1f)), (cb, .inl (kI, 8, .inl f2))] → va_S A s.heap H locs → lv_has ls 3 [(2, .int (nI i)), (0, .ref ca), (1, .ref cb)] → W p l e (headSpec wsX11_copyTo rm_k11_copyTo_8).room s m args0 below meth c H locs 0 0 (MQ below (va_Qv (fun (_ : Unit) => True) (fun _ t => ∃ (g1 : Nat → Int32), va_P (dC, dI) vwCl [(ca, .inl (kI, 8, .inl g1)), (cb, .inl (kI, 8, .inl f2))] t.heap ∧ va_D A [(ca, .inl (kI, 8, .inl g1)), (cb, .inl (kI, 8, .inl f2))]) A) args0 s 0 0 A) (F0 m 2 ls []) := by
    intro n
    induction n with
    | zero =>
      intro i a1f H locs ls hi hP hD hS hl
      refine lv_iload_n hx hb dX11_copyTo_2 rfl (lv_at hl 0 rfl) ?_
      refine lv_aload_n hx hb dX11_copyTo_3 rfl (lv_at hl 1 rfl) ?_
      refine va_alen (v := 8) hx hb hK hP 0 1 rfl rfl rfl dX11_copyTo_4 ?_
      refine lv_icmp_ge (tgt := 20) hx hb dX11_copyTo_5 (by decide) (fun _ => ?_) (fun c9 => absurd (by have h9 : i = 8 := (by omega); subst h9; decide) c9)
      have hP9 := hP.sub (ws' := [(ca, .inl (kI, 8, .inl a1f)), (cb, .inl (kI, 8, .inl f2))]) [0, 1] rfl
      have hD9 := hD.sub (ws' := [(ca, .inl (kI, 8, .inl a1f)), (cb, .inl (kI, 8, .inl f2))]) [0, 1] (by decide) rfl
      exact W.vret hx hb hr (fun t ht hW => ⟨⟨(), rfl, trivial, a1f, by rw [ht]; exact hP9, hD9⟩, hS.F ht⟩) hS.2.2 dX11_copyTo_20
    | succ n ih =>
      intro i a1f H locs ls hi hP hD hS hl
      refine lv_iload_n hx hb dX11_copyTo_2 rfl (lv_at hl 0 rfl) ?_
      refine lv_aload_n hx hb dX11_copyTo_3 rfl (lv_at hl 1 rfl) ?_
      refine va_alen (v := 8) hx hb hK hP 0 1 rfl rfl rfl dX11_copyTo_4 ?_
      refine lv_icmp_ge (tgt := 20) hx hb dX11_copyTo_5 (by decide) (fun c9 => absurd c9 (nI_ge (a := i) (b := 8) (by omega) (by decide))) (fun _ => ?_)
      refine lv_aload_n hx hb dX11_copyTo_8 rfl (lv_at hl 1 rfl) ?_
      refine lv_iload_n hx hb dX11_copyTo_9 rfl (lv_at hl 0 rfl) ?_
      refine lv_aload_n hx hb dX11_copyTo_10 rfl (lv_at hl 2 rfl) ?_
      refine lv_iload_n hx hb dX11_copyTo_11 rfl (lv_at hl 0 rfl) ?_
      refine va_iald hx hb hK hP 1 1 rfl rfl (vp_in_nI (by omega) (by decide)) dX11_copyTo_12 ?_
      refine va_iast hx hb hK hP hD hS 0 1 rfl rfl (vp_in_nI (by omega) (by decide)) dX11_copyTo_13 (fun H locs hP hD hS => ?_)
      have hP : va_P (dC, dI) vwCl [(ca, .inl (kI, 8, .inl (upd a1f (nI i).toNatClampNeg (f2 (nI i).toNatClampNeg)))), (cb, .inl (kI, 8, .inl f2))] H := hP
      have hD : va_D A [(ca, .inl (kI, 8, .inl (upd a1f (nI i).toNatClampNeg (f2 (nI i).toNatClampNeg)))), (cb, .inl (kI, 8, .inl f2))] := hD
      refine lv_iinc (v := nI (i + 1)) (lv' := [(2, .int (nI (i + 1))), (0, .ref ca), (1, .ref cb)]) hx hb dX11_copyTo_14 hl (k := 0) rfl (nI_1 i) (by decide) rfl (fun ls hl => ?_)
      refine lv_goto (tgt := 2) hx hb dX11_copyTo_17 (by decide) ?_
      exact ih (i + 1) (upd a1f (nI i).toNatClampNeg (f2 (nI i).toNatClampNeg)) _ _ _ (by omega) (hP.sub [0, 1] rfl) (hD.sub [0, 1] (by decide) rfl) hS (lv_sub hl [0, 1, 2] rfl)
  exact hloop2 8 0 f1 _ _ _ (Nat.zero_add _) hP hD hS (lv_sub hl [0, 1, 2] rfl)
def rm_k11_copyTo_3 : Room := { frames := 0, cells := 0, slots := 0, locals := 0 }
set_option maxHeartbeats 4000000 in
set_option maxRecDepth 100000 in
theorem k11_copyTo_3 (l : Launch) (dC : Nat → ClassId) (dI : Nat → Nat → Nat) (kB kI kJ kZ kC kS : ClassId) (sz : Nat) (ca : Nat) (cb : Nat) (f1 : Nat → Int32) (f2 : Nat → Int32) : Met l yX11_copyTo wsX11_copyTo rm_k11_copyTo_3 (va_Pc [.ref ca, .ref cb] (fun U => U.heap.size = sz ∧ va_P (dC, dI) vwCl [(ca, .inl (kI, 3, .inl f1)), (cb, .inl (kI, 3, .inl f2))] U.heap ∧ kE dC dI kB kI kJ kZ kC kS U ∧ va_D (fun _ => True) [(ca, .inl (kI, 3, .inl f1)), (cb, .inl (kI, 3, .inl f2))])) (va_Qv (fun (_ : Unit) => True) (fun _ t => ∃ (g1 : Nat → Int32), va_P (dC, dI) vwCl [(ca, .inl (kI, 3, .inl g1)), (cb, .inl (kI, 3, .inl f2))] t.heap ∧ va_D (va_A [(ca, .inl (kI, 3, .inl f1)), (cb, .inl (kI, 3, .inl f2))] sz) [(ca, .inl (kI, 3, .inl g1)), (cb, .inl (kI, 3, .inl f2))]) (va_A [(ca, .inl (kI, 3, .inl f1)), (cb, .inl (kI, 3, .inl f2))] sz)) 0 0 (va_A [(ca, .inl (kI, 3, .inl f1)), (cb, .inl (kI, 3, .inl f2))] sz) := by
  refine Met.ofW (cc := cX11_copyTo) (maxL := 3) (ret := none) (by decide) rfl ?_
  intro p e s m args0 below meth c s₁ B hml hv
  obtain ⟨hargs, hsz, hP, hE, hD0⟩ := hv
  have hx := B.exec
  have hb := B.bytes
  have hr := B.returns
  have hts := atoms_spec (ws := wsX11_copyTo) B.pre
  have hown : s.vm.findClass RX11 = some m.cls := findClass_of_methodNamed B.named
  have hlocks := B.notSynchronized
  have hK := hE.1
  subst hsz
  have hD := hD0.self (sz := s.heap.size)
  generalize hAe : va_A [(ca, .inl (kI, 3, .inl f1)), (cb, .inl (kI, 3, .inl f2))] s.heap.size = A at hD ⊢
  have hA : ∀ q : Nat, s.heap.size ≤ q → A q := fun q h => by rw [← hAe]; exact Or.inr h
  have hS : va_S A s.heap s.heap [] := va_S.rf
  have hP : va_P (dC, dI) vwCl [(ca, .inl (kI, 3, .inl f1)), (cb, .inl (kI, 3, .inl f2))] s.heap := hP
  have hl := lv_entry ([.ref ca, .ref cb]) (n := 3) (Nat.le_of_ble_eq_true rfl)
  have hla : entryFrame m args0 3 = entryFrame m ([.ref ca, .ref cb] : List Value).toArray 3 := by rw [hargs]
  rw [hla, lg_entry_eq]
  generalize (lg_sl ([.ref ca, .ref cb]) ++ List.replicate (3 - (lg_sl ([.ref ca, .ref cb])).length) Slot.unset).toArray = ls at hl ⊢
  have hl : lv_has ls 3 [(0, .ref ca), (1, .ref cb)] := hl
  refine lv_iconst (v := 0) hx hb dX11_copyTo_0 (by decide) ?_
  refine lv_istore_n (lv' := [(2, .int 0), (0, .ref ca), (1, .ref cb)]) hx hb dX11_copyTo_1 rfl hl (by decide) rfl (fun ls hl => ?_)
  have hloop2 : ∀ (n : Nat) (i : Nat) (a1f : Nat → Int32) (H : Heap) (locs : List Loc) (ls : Array Slot), i + n = 3 → va_P (dC, dI) vwCl [(ca, .inl (kI, 3, .inl a1f)), (cb, .inl (kI, 3, .inl f2))] H → va_D A [(ca, .inl (kI, 3, .inl a1f)), (cb, .inl (kI, 3, .inl f2))] → va_S A s.heap H locs → lv_has ls 3 [(2, .int (nI i)), (0, .ref ca), (1, .ref cb)] → W p l e (headSpec wsX11_copyTo rm_k11_copyTo_3).room s m args0 below meth c H locs 0 0 (MQ below (va_Qv (fun (_ : Unit) => True) (fun _ t => ∃ (g1 : Nat → Int32), va_P (dC, dI) vwCl [(ca, .inl (kI, 3, .inl g1)), (cb, .inl (kI, 3, .inl f2))] t.heap ∧ va_D A [(ca, .inl (kI, 3, .inl g1)), (cb, .inl (kI, 3, .inl f2))]) A) args0 s 0 0 A) (F0 m 2 ls []) := by
    intro n
    induction n with
    | zero =>
      intro i a1f H locs ls hi hP hD hS hl
      refine lv_iload_n hx hb dX11_copyTo_2 rfl (lv_at hl 0 rfl) ?_
      refine lv_aload_n hx hb dX11_copyTo_3 rfl (lv_at hl 1 rfl) ?_
      refine va_alen (v := 3) hx hb hK hP 0 1 rfl rfl rfl dX11_copyTo_4 ?_
      refine lv_icmp_ge (tgt := 20) hx hb dX11_copyTo_5 (by decide) (fun _ => ?_) (fun c9 => absurd (by have h9 : i = 3 := (by omega); subst h9; decide) c9)
      have hP9 := hP.sub (ws' := [(ca, .inl (kI, 3, .inl a1f)), (cb, .inl (kI, 3, .inl f2))]) [0, 1] rfl
      have hD9 := hD.sub (ws' := [(ca, .inl (kI, 3, .inl a1f)), (cb, .inl (kI, 3, .inl f2))]) [0, 1] (by decide) rfl
      exact W.vret hx hb hr (fun t ht hW => ⟨⟨(), rfl, trivial, a1f, by rw [ht]; exact hP9, hD9⟩, hS.F ht⟩) hS.2.2 dX11_copyTo_20
    | succ n ih =>
      intro i a1f H locs ls hi hP hD hS hl
      refine lv_iload_n hx hb dX11_copyTo_2 rfl (lv_at hl 0 rfl) ?_
      refine lv_aload_n hx hb dX11_copyTo_3 rfl (lv_at hl 1 rfl) ?_
      refine va_alen (v := 3) hx hb hK hP 0 1 rfl rfl rfl dX11_copyTo_4 ?_
      refine lv_icmp_ge (tgt := 20) hx hb dX11_copyTo_5 (by decide) (fun c9 => absurd c9 (nI_ge (a := i) (b := 3) (by omega) (by decide))) (fun _ => ?_)
      refine lv_aload_n hx hb dX11_copyTo_8 rfl (lv_at hl 1 rfl) ?_
      refine lv_iload_n hx hb dX11_copyTo_9 rfl (lv_at hl 0 rfl) ?_
      refine lv_aload_n hx hb dX11_copyTo_10 rfl (lv_at hl 2 rfl) ?_
      refine lv_iload_n hx hb dX11_copyTo_11 rfl (lv_at hl 0 rfl) ?_
      refine va_iald hx hb hK hP 1 1 rfl rfl (vp_in_nI (by omega) (by decide)) dX11_copyTo_12 ?_
      refine va_iast hx hb hK hP hD hS 0 1 rfl rfl (vp_in_nI (by omega) (by decide)) dX11_copyTo_13 (fun H locs hP hD hS => ?_)
      have hP : va_P (dC, dI) vwCl [(ca, .inl (kI, 3, .inl (upd a1f (nI i).toNatClampNeg (f2 (nI i).toNatClampNeg)))), (cb, .inl (kI, 3, .inl f2))] H := hP
      have hD : va_D A [(ca, .inl (kI, 3, .inl (upd a1f (nI i).toNatClampNeg (f2 (nI i).toNatClampNeg)))), (cb, .inl (kI, 3, .inl f2))] := hD
      refine lv_iinc (v := nI (i + 1)) (lv' := [(2, .int (nI (i + 1))), (0, .ref ca), (1, .ref cb)]) hx hb dX11_copyTo_14 hl (k := 0) rfl (nI_1 i) (by decide) rfl (fun ls hl => ?_)
      refine lv_goto (tgt := 2) hx hb dX11_copyTo_17 (by decide) ?_
      exact ih (i + 1) (upd a1f (nI i).toNatClampNeg (f2 (nI i).toNatClampNeg)) _ _ _ (by omega) (hP.sub [0, 1] rfl) (hD.sub [0, 1] (by decide) rfl) hS (lv_sub hl [0, 1, 2] rfl)
  exact hloop2 3 0 f1 _ _ _ (Nat.zero_add _) hP hD hS (lv_sub hl [0, 1, 2] rfl)
def rm_k11_image : Room := { frames := 1, cells := 0, slots := 0, locals := 22 }
set_option maxHeartbeats 4000000 in
set_option maxRecDepth 100000 in
theorem k11_image (l : Launch) (dC : Nat → ClassId) (dI : Nat → Nat → Nat) (kB kI kJ kZ kC kS : ClassId) (sz : Nat) (m0 : Nat) (ywords : Nat) (ykinds : Nat) (ytold : Nat) (ykind : Nat) (ysalt : Nat) (ypace : Nat) (ymute : Nat) (ylate : Nat) (yfrom : Nat) (yto : Nat) (ygoal : Nat) (ynow : Nat) (ystatus : Nat) (ytape : Nat) (yreach : Nat) (ymet : Nat) (ypast : Nat) (yisAt : Nat) (ywaysTo : Nat) (ywide : Nat) (ydiamondFrom : Nat) (ydiamondTo : Nat) (ynotedPort : Nat) (ynotedGoal : Nat) (ynotedHop : Nat) (ynotedAddress : Nat) (yfitting : Nat) (yrowThen : Nat) (yimageRow : Nat) (ypastThen : Nat) (ynotedPortThen : Nat) (ynotedGoalThen : Nat) (ynotedHopThen : Nat) (ynotedAddressThen : Nat) (ystatusThen : Nat) : Met l yX11_image wsX11_image rm_k11_image (va_Pc [.ref m0] (fun U => U.heap.size = sz ∧ va_P (dC, dI) vwCl [(m0, .inr (11, [.ref ywords, .ref ykinds, .int 0, .ref ytold, .ref ykind, .ref ysalt, .ref ypace, .ref ymute, .ref ylate, .ref yfrom, .ref yto, .ref ygoal, .ref ynow, .ref ystatus, .ref ytape, .int 0, .int 0, .int 0, .int 0, .int 0, .int 0, .int 0, .int 0, .int 0, .int (-1), .ref yreach, .int (-1), .int 0, .int 0, .int 0, .int 0, .int 0, .ref ymet, .int 0, .ref ypast, .ref yisAt, .ref ywaysTo, .ref ywide, .ref ydiamondFrom, .ref ydiamondTo, .int 0, .int 0, .int 0, .int 0, .ref ynotedPort, .ref ynotedGoal, .ref ynotedHop, .ref ynotedAddress, .ref yfitting, .int 0, .ref yrowThen, .int 0, .int 0, .int 0, .ref yimageRow, .ref ypastThen, .ref ynotedPortThen, .ref ynotedGoalThen, .ref ynotedHopThen, .ref ynotedAddressThen, .ref ystatusThen])), (ynow, .inl (kI, 1019, .inl (upd (fun _ => 0) 54 5))), (yimageRow, .inl (kI, 1019, .inl (fun _ => 0))), (ypast, .inl (kI, 40760, .inl (fun _ => 0))), (ypastThen, .inl (kI, 40760, .inl (fun _ => 0))), (ynotedPort, .inl (kI, 8, .inl (fun _ => 0))), (ynotedPortThen, .inl (kI, 8, .inl (fun _ => 0))), (ynotedGoal, .inl (kI, 8, .inl (fun _ => 0))), (ynotedGoalThen, .inl (kI, 8, .inl (fun _ => 0))), (ynotedHop, .inl (kI, 8, .inl (fun _ => 0))), (ynotedHopThen, .inl (kI, 8, .inl (fun _ => 0))), (ynotedAddress, .inl (kI, 8, .inl (fun _ => 0))), (ynotedAddressThen, .inl (kI, 8, .inl (fun _ => 0))), (ystatus, .inl (kI, 3, .inl (fun _ => 0))), (ystatusThen, .inl (kI, 3, .inl (fun _ => 0)))] U.heap ∧ kE dC dI kB kI kJ kZ kC kS U ∧ va_D (fun _ => True) [(m0, .inr (11, [.ref ywords, .ref ykinds, .int 0, .ref ytold, .ref ykind, .ref ysalt, .ref ypace, .ref ymute, .ref ylate, .ref yfrom, .ref yto, .ref ygoal, .ref ynow, .ref ystatus, .ref ytape, .int 0, .int 0, .int 0, .int 0, .int 0, .int 0, .int 0, .int 0, .int 0, .int (-1), .ref yreach, .int (-1), .int 0, .int 0, .int 0, .int 0, .int 0, .ref ymet, .int 0, .ref ypast, .ref yisAt, .ref ywaysTo, .ref ywide, .ref ydiamondFrom, .ref ydiamondTo, .int 0, .int 0, .int 0, .int 0, .ref ynotedPort, .ref ynotedGoal, .ref ynotedHop, .ref ynotedAddress, .ref yfitting, .int 0, .ref yrowThen, .int 0, .int 0, .int 0, .ref yimageRow, .ref ypastThen, .ref ynotedPortThen, .ref ynotedGoalThen, .ref ynotedHopThen, .ref ynotedAddressThen, .ref ystatusThen])), (ynow, .inl (kI, 1019, .inl (upd (fun _ => 0) 54 5))), (yimageRow, .inl (kI, 1019, .inl (fun _ => 0))), (ypast, .inl (kI, 40760, .inl (fun _ => 0))), (ypastThen, .inl (kI, 40760, .inl (fun _ => 0))), (ynotedPort, .inl (kI, 8, .inl (fun _ => 0))), (ynotedPortThen, .inl (kI, 8, .inl (fun _ => 0))), (ynotedGoal, .inl (kI, 8, .inl (fun _ => 0))), (ynotedGoalThen, .inl (kI, 8, .inl (fun _ => 0))), (ynotedHop, .inl (kI, 8, .inl (fun _ => 0))), (ynotedHopThen, .inl (kI, 8, .inl (fun _ => 0))), (ynotedAddress, .inl (kI, 8, .inl (fun _ => 0))), (ynotedAddressThen, .inl (kI, 8, .inl (fun _ => 0))), (ystatus, .inl (kI, 3, .inl (fun _ => 0))), (ystatusThen, .inl (kI, 3, .inl (fun _ => 0)))])) (va_Qv (fun (_ : Unit) => True) (fun _ t => va_P (dC, dI) vwCl [] t.heap ∧ va_D (va_A [(m0, .inr (11, [.ref ywords, .ref ykinds, .int 0, .ref ytold, .ref ykind, .ref ysalt, .ref ypace, .ref ymute, .ref ylate, .ref yfrom, .ref yto, .ref ygoal, .ref ynow, .ref ystatus, .ref ytape, .int 0, .int 0, .int 0, .int 0, .int 0, .int 0, .int 0, .int 0, .int 0, .int (-1), .ref yreach, .int (-1), .int 0, .int 0, .int 0, .int 0, .int 0, .ref ymet, .int 0, .ref ypast, .ref yisAt, .ref ywaysTo, .ref ywide, .ref ydiamondFrom, .ref ydiamondTo, .int 0, .int 0, .int 0, .int 0, .ref ynotedPort, .ref ynotedGoal, .ref ynotedHop, .ref ynotedAddress, .ref yfitting, .int 0, .ref yrowThen, .int 0, .int 0, .int 0, .ref yimageRow, .ref ypastThen, .ref ynotedPortThen, .ref ynotedGoalThen, .ref ynotedHopThen, .ref ynotedAddressThen, .ref ystatusThen])), (ynow, .inl (kI, 1019, .inl (upd (fun _ => 0) 54 5))), (yimageRow, .inl (kI, 1019, .inl (fun _ => 0))), (ypast, .inl (kI, 40760, .inl (fun _ => 0))), (ypastThen, .inl (kI, 40760, .inl (fun _ => 0))), (ynotedPort, .inl (kI, 8, .inl (fun _ => 0))), (ynotedPortThen, .inl (kI, 8, .inl (fun _ => 0))), (ynotedGoal, .inl (kI, 8, .inl (fun _ => 0))), (ynotedGoalThen, .inl (kI, 8, .inl (fun _ => 0))), (ynotedHop, .inl (kI, 8, .inl (fun _ => 0))), (ynotedHopThen, .inl (kI, 8, .inl (fun _ => 0))), (ynotedAddress, .inl (kI, 8, .inl (fun _ => 0))), (ynotedAddressThen, .inl (kI, 8, .inl (fun _ => 0))), (ystatus, .inl (kI, 3, .inl (fun _ => 0))), (ystatusThen, .inl (kI, 3, .inl (fun _ => 0)))] sz) []) (va_A [(m0, .inr (11, [.ref ywords, .ref ykinds, .int 0, .ref ytold, .ref ykind, .ref ysalt, .ref ypace, .ref ymute, .ref ylate, .ref yfrom, .ref yto, .ref ygoal, .ref ynow, .ref ystatus, .ref ytape, .int 0, .int 0, .int 0, .int 0, .int 0, .int 0, .int 0, .int 0, .int 0, .int (-1), .ref yreach, .int (-1), .int 0, .int 0, .int 0, .int 0, .int 0, .ref ymet, .int 0, .ref ypast, .ref yisAt, .ref ywaysTo, .ref ywide, .ref ydiamondFrom, .ref ydiamondTo, .int 0, .int 0, .int 0, .int 0, .ref ynotedPort, .ref ynotedGoal, .ref ynotedHop, .ref ynotedAddress, .ref yfitting, .int 0, .ref yrowThen, .int 0, .int 0, .int 0, .ref yimageRow, .ref ypastThen, .ref ynotedPortThen, .ref ynotedGoalThen, .ref ynotedHopThen, .ref ynotedAddressThen, .ref ystatusThen])), (ynow, .inl (kI, 1019, .inl (upd (fun _ => 0) 54 5))), (yimageRow, .inl (kI, 1019, .inl (fun _ => 0))), (ypast, .inl (kI, 40760, .inl (fun _ => 0))), (ypastThen, .inl (kI, 40760, .inl (fun _ => 0))), (ynotedPort, .inl (kI, 8, .inl (fun _ => 0))), (ynotedPortThen, .inl (kI, 8, .inl (fun _ => 0))), (ynotedGoal, .inl (kI, 8, .inl (fun _ => 0))), (ynotedGoalThen, .inl (kI, 8, .inl (fun _ => 0))), (ynotedHop, .inl (kI, 8, .inl (fun _ => 0))), (ynotedHopThen, .inl (kI, 8, .inl (fun _ => 0))), (ynotedAddress, .inl (kI, 8, .inl (fun _ => 0))), (ynotedAddressThen, .inl (kI, 8, .inl (fun _ => 0))), (ystatus, .inl (kI, 3, .inl (fun _ => 0))), (ystatusThen, .inl (kI, 3, .inl (fun _ => 0)))] sz)) 0 0 (va_A [(m0, .inr (11, [.ref ywords, .ref ykinds, .int 0, .ref ytold, .ref ykind, .ref ysalt, .ref ypace, .ref ymute, .ref ylate, .ref yfrom, .ref yto, .ref ygoal, .ref ynow, .ref ystatus, .ref ytape, .int 0, .int 0, .int 0, .int 0, .int 0, .int 0, .int 0, .int 0, .int 0, .int (-1), .ref yreach, .int (-1), .int 0, .int 0, .int 0, .int 0, .int 0, .ref ymet, .int 0, .ref ypast, .ref yisAt, .ref ywaysTo, .ref ywide, .ref ydiamondFrom, .ref ydiamondTo, .int 0, .int 0, .int 0, .int 0, .ref ynotedPort, .ref ynotedGoal, .ref ynotedHop, .ref ynotedAddress, .ref yfitting, .int 0, .ref yrowThen, .int 0, .int 0, .int 0, .ref yimageRow, .ref ypastThen, .ref ynotedPortThen, .ref ynotedGoalThen, .ref ynotedHopThen, .ref ynotedAddressThen, .ref ystatusThen])), (ynow, .inl (kI, 1019, .inl (upd (fun _ => 0) 54 5))), (yimageRow, .inl (kI, 1019, .inl (fun _ => 0))), (ypast, .inl (kI, 40760, .inl (fun _ => 0))), (ypastThen, .inl (kI, 40760, .inl (fun _ => 0))), (ynotedPort, .inl (kI, 8, .inl (fun _ => 0))), (ynotedPortThen, .inl (kI, 8, .inl (fun _ => 0))), (ynotedGoal, .inl (kI, 8, .inl (fun _ => 0))), (ynotedGoalThen, .inl (kI, 8, .inl (fun _ => 0))), (ynotedHop, .inl (kI, 8, .inl (fun _ => 0))), (ynotedHopThen, .inl (kI, 8, .inl (fun _ => 0))), (ynotedAddress, .inl (kI, 8, .inl (fun _ => 0))), (ynotedAddressThen, .inl (kI, 8, .inl (fun _ => 0))), (ystatus, .inl (kI, 3, .inl (fun _ => 0))), (ystatusThen, .inl (kI, 3, .inl (fun _ => 0)))] sz) := by
  refine Met.ofW (cc := cX11_image) (maxL := 1) (ret := none) (by decide) rfl ?_
  intro p e s m args0 below meth c s₁ B hml hv
  obtain ⟨hargs, hsz, hP, hE, hD0⟩ := hv
  have hx := B.exec
  have hb := B.bytes
  have hr := B.returns
  have hts := atoms_spec (ws := wsX11_image) B.pre
  have hown : s.vm.findClass RX11 = some m.cls := findClass_of_methodNamed B.named
  have hlocks := B.notSynchronized
  have hK := hE.1
  have hin11 : ∀ w ∈ wsX110, w ∈ wsX11_image := fun _ h9 => List.mem_cons_of_mem _ (List.mem_append_right _ h9)
  subst hsz
  have hD := hD0.self (sz := s.heap.size)
  generalize hAe : va_A [(m0, .inr (11, [.ref ywords, .ref ykinds, .int 0, .ref ytold, .ref ykind, .ref ysalt, .ref ypace, .ref ymute, .ref ylate, .ref yfrom, .ref yto, .ref ygoal, .ref ynow, .ref ystatus, .ref ytape, .int 0, .int 0, .int 0, .int 0, .int 0, .int 0, .int 0, .int 0, .int 0, .int (-1), .ref yreach, .int (-1), .int 0, .int 0, .int 0, .int 0, .int 0, .ref ymet, .int 0, .ref ypast, .ref yisAt, .ref ywaysTo, .ref ywide, .ref ydiamondFrom, .ref ydiamondTo, .int 0, .int 0, .int 0, .int 0, .ref ynotedPort, .ref ynotedGoal, .ref ynotedHop, .ref ynotedAddress, .ref yfitting, .int 0, .ref yrowThen, .int 0, .int 0, .int 0, .ref yimageRow, .ref ypastThen, .ref ynotedPortThen, .ref ynotedGoalThen, .ref ynotedHopThen, .ref ynotedAddressThen, .ref ystatusThen])), (ynow, .inl (kI, 1019, .inl (upd (fun _ => 0) 54 5))), (yimageRow, .inl (kI, 1019, .inl (fun _ => 0))), (ypast, .inl (kI, 40760, .inl (fun _ => 0))), (ypastThen, .inl (kI, 40760, .inl (fun _ => 0))), (ynotedPort, .inl (kI, 8, .inl (fun _ => 0))), (ynotedPortThen, .inl (kI, 8, .inl (fun _ => 0))), (ynotedGoal, .inl (kI, 8, .inl (fun _ => 0))), (ynotedGoalThen, .inl (kI, 8, .inl (fun _ => 0))), (ynotedHop, .inl (kI, 8, .inl (fun _ => 0))), (ynotedHopThen, .inl (kI, 8, .inl (fun _ => 0))), (ynotedAddress, .inl (kI, 8, .inl (fun _ => 0))), (ynotedAddressThen, .inl (kI, 8, .inl (fun _ => 0))), (ystatus, .inl (kI, 3, .inl (fun _ => 0))), (ystatusThen, .inl (kI, 3, .inl (fun _ => 0)))] s.heap.size = A at hD ⊢
  have hA : ∀ q : Nat, s.heap.size ≤ q → A q := fun q h => by rw [← hAe]; exact Or.inr h
  have hS : va_S A s.heap s.heap [] := va_S.rf
  have hP : va_P (dC, dI) vwCl [(m0, .inr (11, [.ref ywords, .ref ykinds, .int 0, .ref ytold, .ref ykind, .ref ysalt, .ref ypace, .ref ymute, .ref ylate, .ref yfrom, .ref yto, .ref ygoal, .ref ynow, .ref ystatus, .ref ytape, .int 0, .int 0, .int 0, .int 0, .int 0, .int 0, .int 0, .int 0, .int 0, .int (-1), .ref yreach, .int (-1), .int 0, .int 0, .int 0, .int 0, .int 0, .ref ymet, .int 0, .ref ypast, .ref yisAt, .ref ywaysTo, .ref ywide, .ref ydiamondFrom, .ref ydiamondTo, .int 0, .int 0, .int 0, .int 0, .ref ynotedPort, .ref ynotedGoal, .ref ynotedHop, .ref ynotedAddress, .ref yfitting, .int 0, .ref yrowThen, .int 0, .int 0, .int 0, .ref yimageRow, .ref ypastThen, .ref ynotedPortThen, .ref ynotedGoalThen, .ref ynotedHopThen, .ref ynotedAddressThen, .ref ystatusThen])), (ynow, .inl (kI, 1019, .inl (upd (fun _ => 0) 54 5))), (yimageRow, .inl (kI, 1019, .inl (fun _ => 0))), (ypast, .inl (kI, 40760, .inl (fun _ => 0))), (ypastThen, .inl (kI, 40760, .inl (fun _ => 0))), (ynotedPort, .inl (kI, 8, .inl (fun _ => 0))), (ynotedPortThen, .inl (kI, 8, .inl (fun _ => 0))), (ynotedGoal, .inl (kI, 8, .inl (fun _ => 0))), (ynotedGoalThen, .inl (kI, 8, .inl (fun _ => 0))), (ynotedHop, .inl (kI, 8, .inl (fun _ => 0))), (ynotedHopThen, .inl (kI, 8, .inl (fun _ => 0))), (ynotedAddress, .inl (kI, 8, .inl (fun _ => 0))), (ynotedAddressThen, .inl (kI, 8, .inl (fun _ => 0))), (ystatus, .inl (kI, 3, .inl (fun _ => 0))), (ystatusThen, .inl (kI, 3, .inl (fun _ => 0)))] s.heap := hP
  have hl := lv_entry ([.ref m0]) (n := 1) (Nat.le_of_ble_eq_true rfl)
  have hla : entryFrame m args0 1 = entryFrame m ([.ref m0] : List Value).toArray 1 := by rw [hargs]
  rw [hla, lg_entry_eq]
  generalize (lg_sl ([.ref m0]) ++ List.replicate (1 - (lg_sl ([.ref m0])).length) Slot.unset).toArray = ls at hl ⊢
  have hl : lv_has ls 1 [(0, .ref m0)] := hl
  refine lv_aload_n hx hb dX11_image_0 rfl (lv_at hl 0 rfl) ?_
  refine lv_iconst (v := 0) hx hb dX11_image_1 (by decide) ?_
  refine va_put (D := (dC, dI)) (ci := 11) (v := .int 0) (ty := .int) (C := RX11) (T := TX11) (N := 61) hx hb hts hin11 tyX11 tyX11_ok nmX11 hown hK hP hD hS 0 rfl rfl 2 (by decide) (hts (.fieldLink RX11 142 "PathProberModel" "code" "I") (List.mem_of_getElem? (i := 1) (by decide +kernel))) (fun _ h9 => h9) rfl (by decide +kernel) rfl rfl (Nat.le_of_ble_eq_true rfl) dX11_image_2 (fun H locs hP hD hS => ?_)
  have hP : va_P (dC, dI) vwCl [(m0, .inr (11, [.ref ywords, .ref ykinds, .int 0, .ref ytold, .ref ykind, .ref ysalt, .ref ypace, .ref ymute, .ref ylate, .ref yfrom, .ref yto, .ref ygoal, .ref ynow, .ref ystatus, .ref ytape, .int 0, .int 0, .int 0, .int 0, .int 0, .int 0, .int 0, .int 0, .int 0, .int (-1), .ref yreach, .int (-1), .int 0, .int 0, .int 0, .int 0, .int 0, .ref ymet, .int 0, .ref ypast, .ref yisAt, .ref ywaysTo, .ref ywide, .ref ydiamondFrom, .ref ydiamondTo, .int 0, .int 0, .int 0, .int 0, .ref ynotedPort, .ref ynotedGoal, .ref ynotedHop, .ref ynotedAddress, .ref yfitting, .int 0, .ref yrowThen, .int 0, .int 0, .int 0, .ref yimageRow, .ref ypastThen, .ref ynotedPortThen, .ref ynotedGoalThen, .ref ynotedHopThen, .ref ynotedAddressThen, .ref ystatusThen])), (ynow, .inl (kI, 1019, .inl (upd (fun _ => 0) 54 5))), (yimageRow, .inl (kI, 1019, .inl (fun _ => 0))), (ypast, .inl (kI, 40760, .inl (fun _ => 0))), (ypastThen, .inl (kI, 40760, .inl (fun _ => 0))), (ynotedPort, .inl (kI, 8, .inl (fun _ => 0))), (ynotedPortThen, .inl (kI, 8, .inl (fun _ => 0))), (ynotedGoal, .inl (kI, 8, .inl (fun _ => 0))), (ynotedGoalThen, .inl (kI, 8, .inl (fun _ => 0))), (ynotedHop, .inl (kI, 8, .inl (fun _ => 0))), (ynotedHopThen, .inl (kI, 8, .inl (fun _ => 0))), (ynotedAddress, .inl (kI, 8, .inl (fun _ => 0))), (ynotedAddressThen, .inl (kI, 8, .inl (fun _ => 0))), (ystatus, .inl (kI, 3, .inl (fun _ => 0))), (ystatusThen, .inl (kI, 3, .inl (fun _ => 0)))] H := hP
  have hD : va_D A [(m0, .inr (11, [.ref ywords, .ref ykinds, .int 0, .ref ytold, .ref ykind, .ref ysalt, .ref ypace, .ref ymute, .ref ylate, .ref yfrom, .ref yto, .ref ygoal, .ref ynow, .ref ystatus, .ref ytape, .int 0, .int 0, .int 0, .int 0, .int 0, .int 0, .int 0, .int 0, .int 0, .int (-1), .ref yreach, .int (-1), .int 0, .int 0, .int 0, .int 0, .int 0, .ref ymet, .int 0, .ref ypast, .ref yisAt, .ref ywaysTo, .ref ywide, .ref ydiamondFrom, .ref ydiamondTo, .int 0, .int 0, .int 0, .int 0, .ref ynotedPort, .ref ynotedGoal, .ref ynotedHop, .ref ynotedAddress, .ref yfitting, .int 0, .ref yrowThen, .int 0, .int 0, .int 0, .ref yimageRow, .ref ypastThen, .ref ynotedPortThen, .ref ynotedGoalThen, .ref ynotedHopThen, .ref ynotedAddressThen, .ref ystatusThen])), (ynow, .inl (kI, 1019, .inl (upd (fun _ => 0) 54 5))), (yimageRow, .inl (kI, 1019, .inl (fun _ => 0))), (ypast, .inl (kI, 40760, .inl (fun _ => 0))), (ypastThen, .inl (kI, 40760, .inl (fun _ => 0))), (ynotedPort, .inl (kI, 8, .inl (fun _ => 0))), (ynotedPortThen, .inl (kI, 8, .inl (fun _ => 0))), (ynotedGoal, .inl (kI, 8, .inl (fun _ => 0))), (ynotedGoalThen, .inl (kI, 8, .inl (fun _ => 0))), (ynotedHop, .inl (kI, 8, .inl (fun _ => 0))), (ynotedHopThen, .inl (kI, 8, .inl (fun _ => 0))), (ynotedAddress, .inl (kI, 8, .inl (fun _ => 0))), (ynotedAddressThen, .inl (kI, 8, .inl (fun _ => 0))), (ystatus, .inl (kI, 3, .inl (fun _ => 0))), (ystatusThen, .inl (kI, 3, .inl (fun _ => 0)))] := hD
  refine lv_aload_n hx hb dX11_image_5 rfl (lv_at hl 0 rfl) ?_
  refine lv_iconst (v := 1) hx hb dX11_image_6 (by decide) ?_
  refine va_put (D := (dC, dI)) (ci := 11) (v := .int 1) (ty := .boolean) (C := RX11) (T := TX11) (N := 61) hx hb hts hin11 tyX11 tyX11_ok nmX11 hown hK hP hD hS 0 rfl rfl 51 (by decide) (hts (.fieldLink RX11 256 "PathProberModel" "hasImage" "Z") (List.mem_of_getElem? (i := 2) (by decide +kernel))) (fun _ h9 => h9) rfl (by decide +kernel) rfl rfl (Nat.le_of_ble_eq_true rfl) dX11_image_7 (fun H locs hP hD hS => ?_)
  have hP : va_P (dC, dI) vwCl [(m0, .inr (11, [.ref ywords, .ref ykinds, .int 0, .ref ytold, .ref ykind, .ref ysalt, .ref ypace, .ref ymute, .ref ylate, .ref yfrom, .ref yto, .ref ygoal, .ref ynow, .ref ystatus, .ref ytape, .int 0, .int 0, .int 0, .int 0, .int 0, .int 0, .int 0, .int 0, .int 0, .int (-1), .ref yreach, .int (-1), .int 0, .int 0, .int 0, .int 0, .int 0, .ref ymet, .int 0, .ref ypast, .ref yisAt, .ref ywaysTo, .ref ywide, .ref ydiamondFrom, .ref ydiamondTo, .int 0, .int 0, .int 0, .int 0, .ref ynotedPort, .ref ynotedGoal, .ref ynotedHop, .ref ynotedAddress, .ref yfitting, .int 0, .ref yrowThen, .int 1, .int 0, .int 0, .ref yimageRow, .ref ypastThen, .ref ynotedPortThen, .ref ynotedGoalThen, .ref ynotedHopThen, .ref ynotedAddressThen, .ref ystatusThen])), (ynow, .inl (kI, 1019, .inl (upd (fun _ => 0) 54 5))), (yimageRow, .inl (kI, 1019, .inl (fun _ => 0))), (ypast, .inl (kI, 40760, .inl (fun _ => 0))), (ypastThen, .inl (kI, 40760, .inl (fun _ => 0))), (ynotedPort, .inl (kI, 8, .inl (fun _ => 0))), (ynotedPortThen, .inl (kI, 8, .inl (fun _ => 0))), (ynotedGoal, .inl (kI, 8, .inl (fun _ => 0))), (ynotedGoalThen, .inl (kI, 8, .inl (fun _ => 0))), (ynotedHop, .inl (kI, 8, .inl (fun _ => 0))), (ynotedHopThen, .inl (kI, 8, .inl (fun _ => 0))), (ynotedAddress, .inl (kI, 8, .inl (fun _ => 0))), (ynotedAddressThen, .inl (kI, 8, .inl (fun _ => 0))), (ystatus, .inl (kI, 3, .inl (fun _ => 0))), (ystatusThen, .inl (kI, 3, .inl (fun _ => 0)))] H := hP
  have hD : va_D A [(m0, .inr (11, [.ref ywords, .ref ykinds, .int 0, .ref ytold, .ref ykind, .ref ysalt, .ref ypace, .ref ymute, .ref ylate, .ref yfrom, .ref yto, .ref ygoal, .ref ynow, .ref ystatus, .ref ytape, .int 0, .int 0, .int 0, .int 0, .int 0, .int 0, .int 0, .int 0, .int 0, .int (-1), .ref yreach, .int (-1), .int 0, .int 0, .int 0, .int 0, .int 0, .ref ymet, .int 0, .ref ypast, .ref yisAt, .ref ywaysTo, .ref ywide, .ref ydiamondFrom, .ref ydiamondTo, .int 0, .int 0, .int 0, .int 0, .ref ynotedPort, .ref ynotedGoal, .ref ynotedHop, .ref ynotedAddress, .ref yfitting, .int 0, .ref yrowThen, .int 1, .int 0, .int 0, .ref yimageRow, .ref ypastThen, .ref ynotedPortThen, .ref ynotedGoalThen, .ref ynotedHopThen, .ref ynotedAddressThen, .ref ystatusThen])), (ynow, .inl (kI, 1019, .inl (upd (fun _ => 0) 54 5))), (yimageRow, .inl (kI, 1019, .inl (fun _ => 0))), (ypast, .inl (kI, 40760, .inl (fun _ => 0))), (ypastThen, .inl (kI, 40760, .inl (fun _ => 0))), (ynotedPort, .inl (kI, 8, .inl (fun _ => 0))), (ynotedPortThen, .inl (kI, 8, .inl (fun _ => 0))), (ynotedGoal, .inl (kI, 8, .inl (fun _ => 0))), (ynotedGoalThen, .inl (kI, 8, .inl (fun _ => 0))), (ynotedHop, .inl (kI, 8, .inl (fun _ => 0))), (ynotedHopThen, .inl (kI, 8, .inl (fun _ => 0))), (ynotedAddress, .inl (kI, 8, .inl (fun _ => 0))), (ynotedAddressThen, .inl (kI, 8, .inl (fun _ => 0))), (ystatus, .inl (kI, 3, .inl (fun _ => 0))), (ystatusThen, .inl (kI, 3, .inl (fun _ => 0)))] := hD
  refine lv_aload_n hx hb dX11_image_10 rfl (lv_at hl 0 rfl) ?_
  refine lv_aload_n hx hb dX11_image_11 rfl (lv_at hl 0 rfl) ?_
  refine va_get (D := (dC, dI)) (ci := 11) (v := .int 0) (C := RX11) (T := TX11) (N := 61) hx hb hts hin11 hown hK hP 0 rfl rfl 33 (by decide) (hts (.fieldLink RX11 250 "PathProberModel" "acts" "I") (List.mem_of_getElem? (i := 3) (by decide +kernel))) (fun _ h9 => h9) rfl dX11_image_12 ?_
  refine va_put (D := (dC, dI)) (ci := 11) (v := .int 0) (ty := .int) (C := RX11) (T := TX11) (N := 61) hx hb hts hin11 tyX11 tyX11_ok nmX11 hown hK hP hD hS 0 rfl rfl 52 (by decide) (hts (.fieldLink RX11 477 "PathProberModel" "actsThen" "I") (List.mem_of_getElem? (i := 4) (by decide +kernel))) (fun _ h9 => h9) rfl (by decide +kernel) rfl rfl (Nat.le_of_ble_eq_true rfl) dX11_image_15 (fun H locs hP hD hS => ?_)
  have hP : va_P (dC, dI) vwCl [(m0, .inr (11, [.ref ywords, .ref ykinds, .int 0, .ref ytold, .ref ykind, .ref ysalt, .ref ypace, .ref ymute, .ref ylate, .ref yfrom, .ref yto, .ref ygoal, .ref ynow, .ref ystatus, .ref ytape, .int 0, .int 0, .int 0, .int 0, .int 0, .int 0, .int 0, .int 0, .int 0, .int (-1), .ref yreach, .int (-1), .int 0, .int 0, .int 0, .int 0, .int 0, .ref ymet, .int 0, .ref ypast, .ref yisAt, .ref ywaysTo, .ref ywide, .ref ydiamondFrom, .ref ydiamondTo, .int 0, .int 0, .int 0, .int 0, .ref ynotedPort, .ref ynotedGoal, .ref ynotedHop, .ref ynotedAddress, .ref yfitting, .int 0, .ref yrowThen, .int 1, .int 0, .int 0, .ref yimageRow, .ref ypastThen, .ref ynotedPortThen, .ref ynotedGoalThen, .ref ynotedHopThen, .ref ynotedAddressThen, .ref ystatusThen])), (ynow, .inl (kI, 1019, .inl (upd (fun _ => 0) 54 5))), (yimageRow, .inl (kI, 1019, .inl (fun _ => 0))), (ypast, .inl (kI, 40760, .inl (fun _ => 0))), (ypastThen, .inl (kI, 40760, .inl (fun _ => 0))), (ynotedPort, .inl (kI, 8, .inl (fun _ => 0))), (ynotedPortThen, .inl (kI, 8, .inl (fun _ => 0))), (ynotedGoal, .inl (kI, 8, .inl (fun _ => 0))), (ynotedGoalThen, .inl (kI, 8, .inl (fun _ => 0))), (ynotedHop, .inl (kI, 8, .inl (fun _ => 0))), (ynotedHopThen, .inl (kI, 8, .inl (fun _ => 0))), (ynotedAddress, .inl (kI, 8, .inl (fun _ => 0))), (ynotedAddressThen, .inl (kI, 8, .inl (fun _ => 0))), (ystatus, .inl (kI, 3, .inl (fun _ => 0))), (ystatusThen, .inl (kI, 3, .inl (fun _ => 0)))] H := hP
  have hD : va_D A [(m0, .inr (11, [.ref ywords, .ref ykinds, .int 0, .ref ytold, .ref ykind, .ref ysalt, .ref ypace, .ref ymute, .ref ylate, .ref yfrom, .ref yto, .ref ygoal, .ref ynow, .ref ystatus, .ref ytape, .int 0, .int 0, .int 0, .int 0, .int 0, .int 0, .int 0, .int 0, .int 0, .int (-1), .ref yreach, .int (-1), .int 0, .int 0, .int 0, .int 0, .int 0, .ref ymet, .int 0, .ref ypast, .ref yisAt, .ref ywaysTo, .ref ywide, .ref ydiamondFrom, .ref ydiamondTo, .int 0, .int 0, .int 0, .int 0, .ref ynotedPort, .ref ynotedGoal, .ref ynotedHop, .ref ynotedAddress, .ref yfitting, .int 0, .ref yrowThen, .int 1, .int 0, .int 0, .ref yimageRow, .ref ypastThen, .ref ynotedPortThen, .ref ynotedGoalThen, .ref ynotedHopThen, .ref ynotedAddressThen, .ref ystatusThen])), (ynow, .inl (kI, 1019, .inl (upd (fun _ => 0) 54 5))), (yimageRow, .inl (kI, 1019, .inl (fun _ => 0))), (ypast, .inl (kI, 40760, .inl (fun _ => 0))), (ypastThen, .inl (kI, 40760, .inl (fun _ => 0))), (ynotedPort, .inl (kI, 8, .inl (fun _ => 0))), (ynotedPortThen, .inl (kI, 8, .inl (fun _ => 0))), (ynotedGoal, .inl (kI, 8, .inl (fun _ => 0))), (ynotedGoalThen, .inl (kI, 8, .inl (fun _ => 0))), (ynotedHop, .inl (kI, 8, .inl (fun _ => 0))), (ynotedHopThen, .inl (kI, 8, .inl (fun _ => 0))), (ynotedAddress, .inl (kI, 8, .inl (fun _ => 0))), (ynotedAddressThen, .inl (kI, 8, .inl (fun _ => 0))), (ystatus, .inl (kI, 3, .inl (fun _ => 0))), (ystatusThen, .inl (kI, 3, .inl (fun _ => 0)))] := hD
  refine lv_aload_n hx hb dX11_image_18 rfl (lv_at hl 0 rfl) ?_
  refine lv_aload_n hx hb dX11_image_19 rfl (lv_at hl 0 rfl) ?_
  refine va_get (D := (dC, dI)) (ci := 11) (v := .int 0) (C := RX11) (T := TX11) (N := 61) hx hb hts hin11 hown hK hP 0 rfl rfl 43 (by decide) (hts (.fieldLink RX11 253 "PathProberModel" "noted" "I") (List.mem_of_getElem? (i := 5) (by decide +kernel))) (fun _ h9 => h9) rfl dX11_image_20 ?_
  refine va_put (D := (dC, dI)) (ci := 11) (v := .int 0) (ty := .int) (C := RX11) (T := TX11) (N := 61) hx hb hts hin11 tyX11 tyX11_ok nmX11 hown hK hP hD hS 0 rfl rfl 53 (by decide) (hts (.fieldLink RX11 480 "PathProberModel" "notedThen" "I") (List.mem_of_getElem? (i := 6) (by decide +kernel))) (fun _ h9 => h9) rfl (by decide +kernel) rfl rfl (Nat.le_of_ble_eq_true rfl) dX11_image_23 (fun H locs hP hD hS => ?_)
  have hP : va_P (dC, dI) vwCl [(m0, .inr (11, [.ref ywords, .ref ykinds, .int 0, .ref ytold, .ref ykind, .ref ysalt, .ref ypace, .ref ymute, .ref ylate, .ref yfrom, .ref yto, .ref ygoal, .ref ynow, .ref ystatus, .ref ytape, .int 0, .int 0, .int 0, .int 0, .int 0, .int 0, .int 0, .int 0, .int 0, .int (-1), .ref yreach, .int (-1), .int 0, .int 0, .int 0, .int 0, .int 0, .ref ymet, .int 0, .ref ypast, .ref yisAt, .ref ywaysTo, .ref ywide, .ref ydiamondFrom, .ref ydiamondTo, .int 0, .int 0, .int 0, .int 0, .ref ynotedPort, .ref ynotedGoal, .ref ynotedHop, .ref ynotedAddress, .ref yfitting, .int 0, .ref yrowThen, .int 1, .int 0, .int 0, .ref yimageRow, .ref ypastThen, .ref ynotedPortThen, .ref ynotedGoalThen, .ref ynotedHopThen, .ref ynotedAddressThen, .ref ystatusThen])), (ynow, .inl (kI, 1019, .inl (upd (fun _ => 0) 54 5))), (yimageRow, .inl (kI, 1019, .inl (fun _ => 0))), (ypast, .inl (kI, 40760, .inl (fun _ => 0))), (ypastThen, .inl (kI, 40760, .inl (fun _ => 0))), (ynotedPort, .inl (kI, 8, .inl (fun _ => 0))), (ynotedPortThen, .inl (kI, 8, .inl (fun _ => 0))), (ynotedGoal, .inl (kI, 8, .inl (fun _ => 0))), (ynotedGoalThen, .inl (kI, 8, .inl (fun _ => 0))), (ynotedHop, .inl (kI, 8, .inl (fun _ => 0))), (ynotedHopThen, .inl (kI, 8, .inl (fun _ => 0))), (ynotedAddress, .inl (kI, 8, .inl (fun _ => 0))), (ynotedAddressThen, .inl (kI, 8, .inl (fun _ => 0))), (ystatus, .inl (kI, 3, .inl (fun _ => 0))), (ystatusThen, .inl (kI, 3, .inl (fun _ => 0)))] H := hP
  have hD : va_D A [(m0, .inr (11, [.ref ywords, .ref ykinds, .int 0, .ref ytold, .ref ykind, .ref ysalt, .ref ypace, .ref ymute, .ref ylate, .ref yfrom, .ref yto, .ref ygoal, .ref ynow, .ref ystatus, .ref ytape, .int 0, .int 0, .int 0, .int 0, .int 0, .int 0, .int 0, .int 0, .int 0, .int (-1), .ref yreach, .int (-1), .int 0, .int 0, .int 0, .int 0, .int 0, .ref ymet, .int 0, .ref ypast, .ref yisAt, .ref ywaysTo, .ref ywide, .ref ydiamondFrom, .ref ydiamondTo, .int 0, .int 0, .int 0, .int 0, .ref ynotedPort, .ref ynotedGoal, .ref ynotedHop, .ref ynotedAddress, .ref yfitting, .int 0, .ref yrowThen, .int 1, .int 0, .int 0, .ref yimageRow, .ref ypastThen, .ref ynotedPortThen, .ref ynotedGoalThen, .ref ynotedHopThen, .ref ynotedAddressThen, .ref ystatusThen])), (ynow, .inl (kI, 1019, .inl (upd (fun _ => 0) 54 5))), (yimageRow, .inl (kI, 1019, .inl (fun _ => 0))), (ypast, .inl (kI, 40760, .inl (fun _ => 0))), (ypastThen, .inl (kI, 40760, .inl (fun _ => 0))), (ynotedPort, .inl (kI, 8, .inl (fun _ => 0))), (ynotedPortThen, .inl (kI, 8, .inl (fun _ => 0))), (ynotedGoal, .inl (kI, 8, .inl (fun _ => 0))), (ynotedGoalThen, .inl (kI, 8, .inl (fun _ => 0))), (ynotedHop, .inl (kI, 8, .inl (fun _ => 0))), (ynotedHopThen, .inl (kI, 8, .inl (fun _ => 0))), (ynotedAddress, .inl (kI, 8, .inl (fun _ => 0))), (ynotedAddressThen, .inl (kI, 8, .inl (fun _ => 0))), (ystatus, .inl (kI, 3, .inl (fun _ => 0))), (ystatusThen, .inl (kI, 3, .inl (fun _ => 0)))] := hD
  refine lv_aload_n hx hb dX11_image_26 rfl (lv_at hl 0 rfl) ?_
  refine va_get (D := (dC, dI)) (ci := 11) (v := .ref yimageRow) (C := RX11) (T := TX11) (N := 61) hx hb hts hin11 hown hK hP 0 rfl rfl 54 (by decide) (hts (.fieldLink RX11 121 "PathProberModel" "imageRow" "[I") (List.mem_of_getElem? (i := 7) (by decide +kernel))) (fun _ h9 => h9) rfl dX11_image_27 ?_
  refine lv_aload_n hx hb dX11_image_30 rfl (lv_at hl 0 rfl) ?_
  refine va_get (D := (dC, dI)) (ci := 11) (v := .ref ynow) (C := RX11) (T := TX11) (N := 61) hx hb hts hin11 hown hK hP 0 rfl rfl 12 (by decide) (hts (.fieldLink RX11 60 "PathProberModel" "now" "[I") (List.mem_of_getElem? (i := 8) (by decide +kernel))) (fun _ h9 => h9) rfl dX11_image_31 ?_
  have hPc := hP.sub (ws' := [(yimageRow, .inl (kI, 1019, .inl (fun _ => 0))), (ynow, .inl (kI, 1019, .inl (upd (fun _ => 0) 54 5)))]) [2, 1] rfl
  have hDc := hD.sub (ws' := [(yimageRow, .inl (kI, 1019, .inl (fun _ => 0))), (ynow, .inl (kI, 1019, .inl (upd (fun _ => 0) 54 5)))]) [2, 1] (by decide) rfl
  have hFc := va_free (wc := [(yimageRow, .inl (kI, 1019, .inl (fun _ => 0))), (ynow, .inl (kI, 1019, .inl (upd (fun _ => 0) 54 5)))]) hD hS hA [2, 1] rfl
  refine va_callv (va_runS (As := [.ref yimageRow, .ref ynow]) (rest := []) ⟨hx, hb, hml, hown, hts⟩ (k11_copyTo_1019 l dC dI kB kI kJ kZ kC kS H.size yimageRow ynow (fun _ => 0) (upd (fun _ => 0) 54 5)) (va_cwS 2 hts gX11_image_X11_copyTo rfl rfl rfl (by decide +kernel) ⟨Nat.le_of_ble_eq_true rfl, Nat.le_of_ble_eq_true rfl⟩) ⟨fun a U g mk q => by obtain ⟨q0, q1, qP, qE, qD⟩ := q; exact ⟨q0, q1, qP, kE_call qE, qD⟩, fun U hU hW => ⟨rfl, by rw [hU], by rw [hU]; exact hPc, kE_warm hW hE, hDc.weaken (fun _ _ _ _ => trivial)⟩⟩ rfl rfl hl.1 rfl (lv_room (Nat.le_of_ble_eq_true rfl)) dX11_image_34 ⟨Nat.le_of_ble_eq_true rfl, Nat.le_of_ble_eq_true rfl⟩) hS (fun q _ h => hFc q h) hFc (fun u t H1 locs ht hvm w2 hB hz1 hk1 hS => ?_)
  obtain ⟨g_3, hP1, hD1⟩ := hB
  rw [ht] at hP1
  try dsimp only at w2
  obtain ⟨hP, hD⟩ := va_join (wr := [(m0, .inr (11, [.ref ywords, .ref ykinds, .int 0, .ref ytold, .ref ykind, .ref ysalt, .ref ypace, .ref ymute, .ref ylate, .ref yfrom, .ref yto, .ref ygoal, .ref ynow, .ref ystatus, .ref ytape, .int 0, .int 0, .int 0, .int 0, .int 0, .int 0, .int 0, .int 0, .int 0, .int (-1), .ref yreach, .int (-1), .int 0, .int 0, .int 0, .int 0, .int 0, .ref ymet, .int 0, .ref ypast, .ref yisAt, .ref ywaysTo, .ref ywide, .ref ydiamondFrom, .ref ydiamondTo, .int 0, .int 0, .int 0, .int 0, .ref ynotedPort, .ref ynotedGoal, .ref ynotedHop, .ref ynotedAddress, .ref yfitting, .int 0, .ref yrowThen, .int 1, .int 0, .int 0, .ref yimageRow, .ref ypastThen, .ref ynotedPortThen, .ref ynotedGoalThen, .ref ynotedHopThen, .ref ynotedAddressThen, .ref ystatusThen])), (ypast, .inl (kI, 40760, .inl (fun _ => 0))), (ypastThen, .inl (kI, 40760, .inl (fun _ => 0))), (ynotedPort, .inl (kI, 8, .inl (fun _ => 0))), (ynotedPortThen, .inl (kI, 8, .inl (fun _ => 0))), (ynotedGoal, .inl (kI, 8, .inl (fun _ => 0))), (ynotedGoalThen, .inl (kI, 8, .inl (fun _ => 0))), (ynotedHop, .inl (kI, 8, .inl (fun _ => 0))), (ynotedHopThen, .inl (kI, 8, .inl (fun _ => 0))), (ynotedAddress, .inl (kI, 8, .inl (fun _ => 0))), (ynotedAddressThen, .inl (kI, 8, .inl (fun _ => 0))), (ystatus, .inl (kI, 3, .inl (fun _ => 0))), (ystatusThen, .inl (kI, 3, .inl (fun _ => 0)))]) (w1 := [(yimageRow, .inl (kI, 1019, .inl g_3)), (ynow, .inl (kI, 1019, .inl (upd (fun _ => 0) 54 5)))]) hP hD [2, 1] [0, 3, 4, 5, 6, 7, 8, 9, 10, 11, 12, 13, 14] rfl rfl (by decide) (by decide) hk1 hFc hP1 hD1
  generalize H1 = H at hP hS ⊢
  have hP : va_P (dC, dI) vwCl [(m0, .inr (11, [.ref ywords, .ref ykinds, .int 0, .ref ytold, .ref ykind, .ref ysalt, .ref ypace, .ref ymute, .ref ylate, .ref yfrom, .ref yto, .ref ygoal, .ref ynow, .ref ystatus, .ref ytape, .int 0, .int 0, .int 0, .int 0, .int 0, .int 0, .int 0, .int 0, .int 0, .int (-1), .ref yreach, .int (-1), .int 0, .int 0, .int 0, .int 0, .int 0, .ref ymet, .int 0, .ref ypast, .ref yisAt, .ref ywaysTo, .ref ywide, .ref ydiamondFrom, .ref ydiamondTo, .int 0, .int 0, .int 0, .int 0, .ref ynotedPort, .ref ynotedGoal, .ref ynotedHop, .ref ynotedAddress, .ref yfitting, .int 0, .ref yrowThen, .int 1, .int 0, .int 0, .ref yimageRow, .ref ypastThen, .ref ynotedPortThen, .ref ynotedGoalThen, .ref ynotedHopThen, .ref ynotedAddressThen, .ref ystatusThen])), (ypast, .inl (kI, 40760, .inl (fun _ => 0))), (ypastThen, .inl (kI, 40760, .inl (fun _ => 0))), (ynotedPort, .inl (kI, 8, .inl (fun _ => 0))), (ynotedPortThen, .inl (kI, 8, .inl (fun _ => 0))), (ynotedGoal, .inl (kI, 8, .inl (fun _ => 0))), (ynotedGoalThen, .inl (kI, 8, .inl (fun _ => 0))), (ynotedHop, .inl (kI, 8, .inl (fun _ => 0))), (ynotedHopThen, .inl (kI, 8, .inl (fun _ => 0))), (ynotedAddress, .inl (kI, 8, .inl (fun _ => 0))), (ynotedAddressThen, .inl (kI, 8, .inl (fun _ => 0))), (ystatus, .inl (kI, 3, .inl (fun _ => 0))), (ystatusThen, .inl (kI, 3, .inl (fun _ => 0))), (yimageRow, .inl (kI, 1019, .inl g_3)), (ynow, .inl (kI, 1019, .inl (upd (fun _ => 0) 54 5)))] H := hP
  have hD : va_D A [(m0, .inr (11, [.ref ywords, .ref ykinds, .int 0, .ref ytold, .ref ykind, .ref ysalt, .ref ypace, .ref ymute, .ref ylate, .ref yfrom, .ref yto, .ref ygoal, .ref ynow, .ref ystatus, .ref ytape, .int 0, .int 0, .int 0, .int 0, .int 0, .int 0, .int 0, .int 0, .int 0, .int (-1), .ref yreach, .int (-1), .int 0, .int 0, .int 0, .int 0, .int 0, .ref ymet, .int 0, .ref ypast, .ref yisAt, .ref ywaysTo, .ref ywide, .ref ydiamondFrom, .ref ydiamondTo, .int 0, .int 0, .int 0, .int 0, .ref ynotedPort, .ref ynotedGoal, .ref ynotedHop, .ref ynotedAddress, .ref yfitting, .int 0, .ref yrowThen, .int 1, .int 0, .int 0, .ref yimageRow, .ref ypastThen, .ref ynotedPortThen, .ref ynotedGoalThen, .ref ynotedHopThen, .ref ynotedAddressThen, .ref ystatusThen])), (ypast, .inl (kI, 40760, .inl (fun _ => 0))), (ypastThen, .inl (kI, 40760, .inl (fun _ => 0))), (ynotedPort, .inl (kI, 8, .inl (fun _ => 0))), (ynotedPortThen, .inl (kI, 8, .inl (fun _ => 0))), (ynotedGoal, .inl (kI, 8, .inl (fun _ => 0))), (ynotedGoalThen, .inl (kI, 8, .inl (fun _ => 0))), (ynotedHop, .inl (kI, 8, .inl (fun _ => 0))), (ynotedHopThen, .inl (kI, 8, .inl (fun _ => 0))), (ynotedAddress, .inl (kI, 8, .inl (fun _ => 0))), (ynotedAddressThen, .inl (kI, 8, .inl (fun _ => 0))), (ystatus, .inl (kI, 3, .inl (fun _ => 0))), (ystatusThen, .inl (kI, 3, .inl (fun _ => 0))), (yimageRow, .inl (kI, 1019, .inl g_3)), (ynow, .inl (kI, 1019, .inl (upd (fun _ => 0) 54 5)))] := hD
  refine W.widen (k := 0) (n := 0) (Nat.le_of_ble_eq_true rfl) (Nat.le_of_ble_eq_true rfl) ?_
  refine lv_aload_n hx hb dX11_image_37 rfl (lv_at hl 0 rfl) ?_
  refine va_get (D := (dC, dI)) (ci := 11) (v := .ref ypastThen) (C := RX11) (T := TX11) (N := 61) hx hb hts hin11 hown hK hP 0 rfl rfl 55 (by decide) (hts (.fieldLink RX11 124 "PathProberModel" "pastThen" "[I") (List.mem_of_getElem? (i := 9) (by decide +kernel))) (fun _ h9 => h9) rfl dX11_image_38 ?_
  refine lv_aload_n hx hb dX11_image_41 rfl (lv_at hl 0 rfl) ?_
  refine va_get (D := (dC, dI)) (ci := 11) (v := .ref ypast) (C := RX11) (T := TX11) (N := 61) hx hb hts hin11 hown hK hP 0 rfl rfl 34 (by decide) (hts (.fieldLink RX11 84 "PathProberModel" "past" "[I") (List.mem_of_getElem? (i := 10) (by decide +kernel))) (fun _ h9 => h9) rfl dX11_image_42 ?_
  have hPc := hP.sub (ws' := [(ypastThen, .inl (kI, 40760, .inl (fun _ => 0))), (ypast, .inl (kI, 40760, .inl (fun _ => 0)))]) [2, 1] rfl
  have hDc := hD.sub (ws' := [(ypastThen, .inl (kI, 40760, .inl (fun _ => 0))), (ypast, .inl (kI, 40760, .inl (fun _ => 0)))]) [2, 1] (by decide) rfl
  have hFc := va_free (wc := [(ypastThen, .inl (kI, 40760, .inl (fun _ => 0))), (ypast, .inl (kI, 40760, .inl (fun _ => 0)))]) hD hS hA [2, 1] rfl
  refine va_callv (va_runS (As := [.ref ypastThen, .ref ypast]) (rest := []) ⟨hx, hb, hml, hown, hts⟩ (k11_copyTo_40760 l dC dI kB kI kJ kZ kC kS H.size ypastThen ypast (fun _ => 0) (fun _ => 0)) (va_cwS 2 hts gX11_image_X11_copyTo rfl rfl rfl (by decide +kernel) ⟨Nat.le_of_ble_eq_true rfl, Nat.le_of_ble_eq_true rfl⟩) ⟨fun a U g mk q => by obtain ⟨q0, q1, qP, qE, qD⟩ := q; exact ⟨q0, q1, qP, kE_call qE, qD⟩, fun U hU hW => ⟨rfl, by rw [hU], by rw [hU]; exact hPc, kE_warm hW hE, hDc.weaken (fun _ _ _ _ => trivial)⟩⟩ rfl rfl hl.1 rfl (lv_room (Nat.le_of_ble_eq_true rfl)) dX11_image_45 ⟨Nat.le_of_ble_eq_true rfl, Nat.le_of_ble_eq_true rfl⟩) hS (fun q _ h => hFc q h) hFc (fun u t H1 locs ht hvm w5 hB hz1 hk1 hS => ?_)
  obtain ⟨g_6, hP1, hD1⟩ := hB
  rw [ht] at hP1
  try dsimp only at w5
  obtain ⟨hP, hD⟩ := va_join (wr := [(m0, .inr (11, [.ref ywords, .ref ykinds, .int 0, .ref ytold, .ref ykind, .ref ysalt, .ref ypace, .ref ymute, .ref ylate, .ref yfrom, .ref yto, .ref ygoal, .ref ynow, .ref ystatus, .ref ytape, .int 0, .int 0, .int 0, .int 0, .int 0, .int 0, .int 0, .int 0, .int 0, .int (-1), .ref yreach, .int (-1), .int 0, .int 0, .int 0, .int 0, .int 0, .ref ymet, .int 0, .ref ypast, .ref yisAt, .ref ywaysTo, .ref ywide, .ref ydiamondFrom, .ref ydiamondTo, .int 0, .int 0, .int 0, .int 0, .ref ynotedPort, .ref ynotedGoal, .ref ynotedHop, .ref ynotedAddress, .ref yfitting, .int 0, .ref yrowThen, .int 1, .int 0, .int 0, .ref yimageRow, .ref ypastThen, .ref ynotedPortThen, .ref ynotedGoalThen, .ref ynotedHopThen, .ref ynotedAddressThen, .ref ystatusThen])), (ynotedPort, .inl (kI, 8, .inl (fun _ => 0))), (ynotedPortThen, .inl (kI, 8, .inl (fun _ => 0))), (ynotedGoal, .inl (kI, 8, .inl (fun _ => 0))), (ynotedGoalThen, .inl (kI, 8, .inl (fun _ => 0))), (ynotedHop, .inl (kI, 8, .inl (fun _ => 0))), (ynotedHopThen, .inl (kI, 8, .inl (fun _ => 0))), (ynotedAddress, .inl (kI, 8, .inl (fun _ => 0))), (ynotedAddressThen, .inl (kI, 8, .inl (fun _ => 0))), (ystatus, .inl (kI, 3, .inl (fun _ => 0))), (ystatusThen, .inl (kI, 3, .inl (fun _ => 0))), (yimageRow, .inl (kI, 1019, .inl g_3)), (ynow, .inl (kI, 1019, .inl (upd (fun _ => 0) 54 5)))]) (w1 := [(ypastThen, .inl (kI, 40760, .inl g_6)), (ypast, .inl (kI, 40760, .inl (fun _ => 0)))]) hP hD [2, 1] [0, 3, 4, 5, 6, 7, 8, 9, 10, 11, 12, 13, 14] rfl rfl (by decide) (by decide) hk1 hFc hP1 hD1
  generalize H1 = H at hP hS ⊢
  have hP : va_P (dC, dI) vwCl [(m0, .inr (11, [.ref ywords, .ref ykinds, .int 0, .ref ytold, .ref ykind, .ref ysalt, .ref ypace, .ref ymute, .ref ylate, .ref yfrom, .ref yto, .ref ygoal, .ref ynow, .ref ystatus, .ref ytape, .int 0, .int 0, .int 0, .int 0, .int 0, .int 0, .int 0, .int 0, .int 0, .int (-1), .ref yreach, .int (-1), .int 0, .int 0, .int 0, .int 0, .int 0, .ref ymet, .int 0, .ref ypast, .ref yisAt, .ref ywaysTo, .ref ywide, .ref ydiamondFrom, .ref ydiamondTo, .int 0, .int 0, .int 0, .int 0, .ref ynotedPort, .ref ynotedGoal, .ref ynotedHop, .ref ynotedAddress, .ref yfitting, .int 0, .ref yrowThen, .int 1, .int 0, .int 0, .ref yimageRow, .ref ypastThen, .ref ynotedPortThen, .ref ynotedGoalThen, .ref ynotedHopThen, .ref ynotedAddressThen, .ref ystatusThen])), (ynotedPort, .inl (kI, 8, .inl (fun _ => 0))), (ynotedPortThen, .inl (kI, 8, .inl (fun _ => 0))), (ynotedGoal, .inl (kI, 8, .inl (fun _ => 0))), (ynotedGoalThen, .inl (kI, 8, .inl (fun _ => 0))), (ynotedHop, .inl (kI, 8, .inl (fun _ => 0))), (ynotedHopThen, .inl (kI, 8, .inl (fun _ => 0))), (ynotedAddress, .inl (kI, 8, .inl (fun _ => 0))), (ynotedAddressThen, .inl (kI, 8, .inl (fun _ => 0))), (ystatus, .inl (kI, 3, .inl (fun _ => 0))), (ystatusThen, .inl (kI, 3, .inl (fun _ => 0))), (yimageRow, .inl (kI, 1019, .inl g_3)), (ynow, .inl (kI, 1019, .inl (upd (fun _ => 0) 54 5))), (ypastThen, .inl (kI, 40760, .inl g_6)), (ypast, .inl (kI, 40760, .inl (fun _ => 0)))] H := hP
  have hD : va_D A [(m0, .inr (11, [.ref ywords, .ref ykinds, .int 0, .ref ytold, .ref ykind, .ref ysalt, .ref ypace, .ref ymute, .ref ylate, .ref yfrom, .ref yto, .ref ygoal, .ref ynow, .ref ystatus, .ref ytape, .int 0, .int 0, .int 0, .int 0, .int 0, .int 0, .int 0, .int 0, .int 0, .int (-1), .ref yreach, .int (-1), .int 0, .int 0, .int 0, .int 0, .int 0, .ref ymet, .int 0, .ref ypast, .ref yisAt, .ref ywaysTo, .ref ywide, .ref ydiamondFrom, .ref ydiamondTo, .int 0, .int 0, .int 0, .int 0, .ref ynotedPort, .ref ynotedGoal, .ref ynotedHop, .ref ynotedAddress, .ref yfitting, .int 0, .ref yrowThen, .int 1, .int 0, .int 0, .ref yimageRow, .ref ypastThen, .ref ynotedPortThen, .ref ynotedGoalThen, .ref ynotedHopThen, .ref ynotedAddressThen, .ref ystatusThen])), (ynotedPort, .inl (kI, 8, .inl (fun _ => 0))), (ynotedPortThen, .inl (kI, 8, .inl (fun _ => 0))), (ynotedGoal, .inl (kI, 8, .inl (fun _ => 0))), (ynotedGoalThen, .inl (kI, 8, .inl (fun _ => 0))), (ynotedHop, .inl (kI, 8, .inl (fun _ => 0))), (ynotedHopThen, .inl (kI, 8, .inl (fun _ => 0))), (ynotedAddress, .inl (kI, 8, .inl (fun _ => 0))), (ynotedAddressThen, .inl (kI, 8, .inl (fun _ => 0))), (ystatus, .inl (kI, 3, .inl (fun _ => 0))), (ystatusThen, .inl (kI, 3, .inl (fun _ => 0))), (yimageRow, .inl (kI, 1019, .inl g_3)), (ynow, .inl (kI, 1019, .inl (upd (fun _ => 0) 54 5))), (ypastThen, .inl (kI, 40760, .inl g_6)), (ypast, .inl (kI, 40760, .inl (fun _ => 0)))] := hD
  refine W.widen (k := 0) (n := 0) (Nat.le_of_ble_eq_true rfl) (Nat.le_of_ble_eq_true rfl) ?_
  refine lv_aload_n hx hb dX11_image_48 rfl (lv_at hl 0 rfl) ?_
  refine va_get (D := (dC, dI)) (ci := 11) (v := .ref ynotedPortThen) (C := RX11) (T := TX11) (N := 61) hx hb hts hin11 hown hK hP 0 rfl rfl 56 (by decide) (hts (.fieldLink RX11 127 "PathProberModel" "notedPortThen" "[I") (List.mem_of_getElem? (i := 11) (by decide +kernel))) (fun _ h9 => h9) rfl dX11_image_49 ?_
  refine lv_aload_n hx hb dX11_image_52 rfl (lv_at hl 0 rfl) ?_
  refine va_get (D := (dC, dI)) (ci := 11) (v := .ref ynotedPort) (C := RX11) (T := TX11) (N := 61) hx hb hts hin11 hown hK hP 0 rfl rfl 44 (by decide) (hts (.fieldLink RX11 103 "PathProberModel" "notedPort" "[I") (List.mem_of_getElem? (i := 12) (by decide +kernel))) (fun _ h9 => h9) rfl dX11_image_53 ?_
  have hPc := hP.sub (ws' := [(ynotedPortThen, .inl (kI, 8, .inl (fun _ => 0))), (ynotedPort, .inl (kI, 8, .inl (fun _ => 0)))]) [2, 1] rfl
  have hDc := hD.sub (ws' := [(ynotedPortThen, .inl (kI, 8, .inl (fun _ => 0))), (ynotedPort, .inl (kI, 8, .inl (fun _ => 0)))]) [2, 1] (by decide) rfl
  have hFc := va_free (wc := [(ynotedPortThen, .inl (kI, 8, .inl (fun _ => 0))), (ynotedPort, .inl (kI, 8, .inl (fun _ => 0)))]) hD hS hA [2, 1] rfl
  refine va_callv (va_runS (As := [.ref ynotedPortThen, .ref ynotedPort]) (rest := []) ⟨hx, hb, hml, hown, hts⟩ (k11_copyTo_8 l dC dI kB kI kJ kZ kC kS H.size ynotedPortThen ynotedPort (fun _ => 0) (fun _ => 0)) (va_cwS 2 hts gX11_image_X11_copyTo rfl rfl rfl (by decide +kernel) ⟨Nat.le_of_ble_eq_true rfl, Nat.le_of_ble_eq_true rfl⟩) ⟨fun a U g mk q => by obtain ⟨q0, q1, qP, qE, qD⟩ := q; exact ⟨q0, q1, qP, kE_call qE, qD⟩, fun U hU hW => ⟨rfl, by rw [hU], by rw [hU]; exact hPc, kE_warm hW hE, hDc.weaken (fun _ _ _ _ => trivial)⟩⟩ rfl rfl hl.1 rfl (lv_room (Nat.le_of_ble_eq_true rfl)) dX11_image_56 ⟨Nat.le_of_ble_eq_true rfl, Nat.le_of_ble_eq_true rfl⟩) hS (fun q _ h => hFc q h) hFc (fun u t H1 locs ht hvm w8 hB hz1 hk1 hS => ?_)
  obtain ⟨g_9, hP1, hD1⟩ := hB
  rw [ht] at hP1
  try dsimp only at w8
  obtain ⟨hP, hD⟩ := va_join (wr := [(m0, .inr (11, [.ref ywords, .ref ykinds, .int 0, .ref ytold, .ref ykind, .ref ysalt, .ref ypace, .ref ymute, .ref ylate, .ref yfrom, .ref yto, .ref ygoal, .ref ynow, .ref ystatus, .ref ytape, .int 0, .int 0, .int 0, .int 0, .int 0, .int 0, .int 0, .int 0, .int 0, .int (-1), .ref yreach, .int (-1), .int 0, .int 0, .int 0, .int 0, .int 0, .ref ymet, .int 0, .ref ypast, .ref yisAt, .ref ywaysTo, .ref ywide, .ref ydiamondFrom, .ref ydiamondTo, .int 0, .int 0, .int 0, .int 0, .ref ynotedPort, .ref ynotedGoal, .ref ynotedHop, .ref ynotedAddress, .ref yfitting, .int 0, .ref yrowThen, .int 1, .int 0, .int 0, .ref yimageRow, .ref ypastThen, .ref ynotedPortThen, .ref ynotedGoalThen, .ref ynotedHopThen, .ref ynotedAddressThen, .ref ystatusThen])), (ynotedGoal, .inl (kI, 8, .inl (fun _ => 0))), (ynotedGoalThen, .inl (kI, 8, .inl (fun _ => 0))), (ynotedHop, .inl (kI, 8, .inl (fun _ => 0))), (ynotedHopThen, .inl (kI, 8, .inl (fun _ => 0))), (ynotedAddress, .inl (kI, 8, .inl (fun _ => 0))), (ynotedAddressThen, .inl (kI, 8, .inl (fun _ => 0))), (ystatus, .inl (kI, 3, .inl (fun _ => 0))), (ystatusThen, .inl (kI, 3, .inl (fun _ => 0))), (yimageRow, .inl (kI, 1019, .inl g_3)), (ynow, .inl (kI, 1019, .inl (upd (fun _ => 0) 54 5))), (ypastThen, .inl (kI, 40760, .inl g_6)), (ypast, .inl (kI, 40760, .inl (fun _ => 0)))]) (w1 := [(ynotedPortThen, .inl (kI, 8, .inl g_9)), (ynotedPort, .inl (kI, 8, .inl (fun _ => 0)))]) hP hD [2, 1] [0, 3, 4, 5, 6, 7, 8, 9, 10, 11, 12, 13, 14] rfl rfl (by decide) (by decide) hk1 hFc hP1 hD1
  generalize H1 = H at hP hS ⊢
  have hP : va_P (dC, dI) vwCl [(m0, .inr (11, [.ref ywords, .ref ykinds, .int 0, .ref ytold, .ref ykind, .ref ysalt, .ref ypace, .ref ymute, .ref ylate, .ref yfrom, .ref yto, .ref ygoal, .ref ynow, .ref ystatus, .ref ytape, .int 0, .int 0, .int 0, .int 0, .int 0, .int 0, .int 0, .int 0, .int 0, .int (-1), .ref yreach, .int (-1), .int 0, .int 0, .int 0, .int 0, .int 0, .ref ymet, .int 0, .ref ypast, .ref yisAt, .ref ywaysTo, .ref ywide, .ref ydiamondFrom, .ref ydiamondTo, .int 0, .int 0, .int 0, .int 0, .ref ynotedPort, .ref ynotedGoal, .ref ynotedHop, .ref ynotedAddress, .ref yfitting, .int 0, .ref yrowThen, .int 1, .int 0, .int 0, .ref yimageRow, .ref ypastThen, .ref ynotedPortThen, .ref ynotedGoalThen, .ref ynotedHopThen, .ref ynotedAddressThen, .ref ystatusThen])), (ynotedGoal, .inl (kI, 8, .inl (fun _ => 0))), (ynotedGoalThen, .inl (kI, 8, .inl (fun _ => 0))), (ynotedHop, .inl (kI, 8, .inl (fun _ => 0))), (ynotedHopThen, .inl (kI, 8, .inl (fun _ => 0))), (ynotedAddress, .inl (kI, 8, .inl (fun _ => 0))), (ynotedAddressThen, .inl (kI, 8, .inl (fun _ => 0))), (ystatus, .inl (kI, 3, .inl (fun _ => 0))), (ystatusThen, .inl (kI, 3, .inl (fun _ => 0))), (yimageRow, .inl (kI, 1019, .inl g_3)), (ynow, .inl (kI, 1019, .inl (upd (fun _ => 0) 54 5))), (ypastThen, .inl (kI, 40760, .inl g_6)), (ypast, .inl (kI, 40760, .inl (fun _ => 0))), (ynotedPortThen, .inl (kI, 8, .inl g_9)), (ynotedPort, .inl (kI, 8, .inl (fun _ => 0)))] H := hP
  have hD : va_D A [(m0, .inr (11, [.ref ywords, .ref ykinds, .int 0, .ref ytold, .ref ykind, .ref ysalt, .ref ypace, .ref ymute, .ref ylate, .ref yfrom, .ref yto, .ref ygoal, .ref ynow, .ref ystatus, .ref ytape, .int 0, .int 0, .int 0, .int 0, .int 0, .int 0, .int 0, .int 0, .int 0, .int (-1), .ref yreach, .int (-1), .int 0, .int 0, .int 0, .int 0, .int 0, .ref ymet, .int 0, .ref ypast, .ref yisAt, .ref ywaysTo, .ref ywide, .ref ydiamondFrom, .ref ydiamondTo, .int 0, .int 0, .int 0, .int 0, .ref ynotedPort, .ref ynotedGoal, .ref ynotedHop, .ref ynotedAddress, .ref yfitting, .int 0, .ref yrowThen, .int 1, .int 0, .int 0, .ref yimageRow, .ref ypastThen, .ref ynotedPortThen, .ref ynotedGoalThen, .ref ynotedHopThen, .ref ynotedAddressThen, .ref ystatusThen])), (ynotedGoal, .inl (kI, 8, .inl (fun _ => 0))), (ynotedGoalThen, .inl (kI, 8, .inl (fun _ => 0))), (ynotedHop, .inl (kI, 8, .inl (fun _ => 0))), (ynotedHopThen, .inl (kI, 8, .inl (fun _ => 0))), (ynotedAddress, .inl (kI, 8, .inl (fun _ => 0))), (ynotedAddressThen, .inl (kI, 8, .inl (fun _ => 0))), (ystatus, .inl (kI, 3, .inl (fun _ => 0))), (ystatusThen, .inl (kI, 3, .inl (fun _ => 0))), (yimageRow, .inl (kI, 1019, .inl g_3)), (ynow, .inl (kI, 1019, .inl (upd (fun _ => 0) 54 5))), (ypastThen, .inl (kI, 40760, .inl g_6)), (ypast, .inl (kI, 40760, .inl (fun _ => 0))), (ynotedPortThen, .inl (kI, 8, .inl g_9)), (ynotedPort, .inl (kI, 8, .inl (fun _ => 0)))] := hD
  refine W.widen (k := 0) (n := 0) (Nat.le_of_ble_eq_true rfl) (Nat.le_of_ble_eq_true rfl) ?_
  refine lv_aload_n hx hb dX11_image_59 rfl (lv_at hl 0 rfl) ?_
  refine va_get (D := (dC, dI)) (ci := 11) (v := .ref ynotedGoalThen) (C := RX11) (T := TX11) (N := 61) hx hb hts hin11 hown hK hP 0 rfl rfl 57 (by decide) (hts (.fieldLink RX11 130 "PathProberModel" "notedGoalThen" "[I") (List.mem_of_getElem? (i := 13) (by decide +kernel))) (fun _ h9 => h9) rfl dX11_image_60 ?_
  refine lv_aload_n hx hb dX11_image_63 rfl (lv_at hl 0 rfl) ?_
  refine va_get (D := (dC, dI)) (ci := 11) (v := .ref ynotedGoal) (C := RX11) (T := TX11) (N := 61) hx hb hts hin11 hown hK hP 0 rfl rfl 45 (by decide) (hts (.fieldLink RX11 106 "PathProberModel" "notedGoal" "[I") (List.mem_of_getElem? (i := 14) (by decide +kernel))) (fun _ h9 => h9) rfl dX11_image_64 ?_
  have hPc := hP.sub (ws' := [(ynotedGoalThen, .inl (kI, 8, .inl (fun _ => 0))), (ynotedGoal, .inl (kI, 8, .inl (fun _ => 0)))]) [2, 1] rfl
  have hDc := hD.sub (ws' := [(ynotedGoalThen, .inl (kI, 8, .inl (fun _ => 0))), (ynotedGoal, .inl (kI, 8, .inl (fun _ => 0)))]) [2, 1] (by decide) rfl
  have hFc := va_free (wc := [(ynotedGoalThen, .inl (kI, 8, .inl (fun _ => 0))), (ynotedGoal, .inl (kI, 8, .inl (fun _ => 0)))]) hD hS hA [2, 1] rfl
  refine va_callv (va_runS (As := [.ref ynotedGoalThen, .ref ynotedGoal]) (rest := []) ⟨hx, hb, hml, hown, hts⟩ (k11_copyTo_8 l dC dI kB kI kJ kZ kC kS H.size ynotedGoalThen ynotedGoal (fun _ => 0) (fun _ => 0)) (va_cwS 2 hts gX11_image_X11_copyTo rfl rfl rfl (by decide +kernel) ⟨Nat.le_of_ble_eq_true rfl, Nat.le_of_ble_eq_true rfl⟩) ⟨fun a U g mk q => by obtain ⟨q0, q1, qP, qE, qD⟩ := q; exact ⟨q0, q1, qP, kE_call qE, qD⟩, fun U hU hW => ⟨rfl, by rw [hU], by rw [hU]; exact hPc, kE_warm hW hE, hDc.weaken (fun _ _ _ _ => trivial)⟩⟩ rfl rfl hl.1 rfl (lv_room (Nat.le_of_ble_eq_true rfl)) dX11_image_67 ⟨Nat.le_of_ble_eq_true rfl, Nat.le_of_ble_eq_true rfl⟩) hS (fun q _ h => hFc q h) hFc (fun u t H1 locs ht hvm w11 hB hz1 hk1 hS => ?_)
  obtain ⟨g_12, hP1, hD1⟩ := hB
  rw [ht] at hP1
  try dsimp only at w11
  obtain ⟨hP, hD⟩ := va_join (wr := [(m0, .inr (11, [.ref ywords, .ref ykinds, .int 0, .ref ytold, .ref ykind, .ref ysalt, .ref ypace, .ref ymute, .ref ylate, .ref yfrom, .ref yto, .ref ygoal, .ref ynow, .ref ystatus, .ref ytape, .int 0, .int 0, .int 0, .int 0, .int 0, .int 0, .int 0, .int 0, .int 0, .int (-1), .ref yreach, .int (-1), .int 0, .int 0, .int 0, .int 0, .int 0, .ref ymet, .int 0, .ref ypast, .ref yisAt, .ref ywaysTo, .ref ywide, .ref ydiamondFrom, .ref ydiamondTo, .int 0, .int 0, .int 0, .int 0, .ref ynotedPort, .ref ynotedGoal, .ref ynotedHop, .ref ynotedAddress, .ref yfitting, .int 0, .ref yrowThen, .int 1, .int 0, .int 0, .ref yimageRow, .ref ypastThen, .ref ynotedPortThen, .ref ynotedGoalThen, .ref ynotedHopThen, .ref ynotedAddressThen, .ref ystatusThen])), (ynotedHop, .inl (kI, 8, .inl (fun _ => 0))), (ynotedHopThen, .inl (kI, 8, .inl (fun _ => 0))), (ynotedAddress, .inl (kI, 8, .inl (fun _ => 0))), (ynotedAddressThen, .inl (kI, 8, .inl (fun _ => 0))), (ystatus, .inl (kI, 3, .inl (fun _ => 0))), (ystatusThen, .inl (kI, 3, .inl (fun _ => 0))), (yimageRow, .inl (kI, 1019, .inl g_3)), (ynow, .inl (kI, 1019, .inl (upd (fun _ => 0) 54 5))), (ypastThen, .inl (kI, 40760, .inl g_6)), (ypast, .inl (kI, 40760, .inl (fun _ => 0))), (ynotedPortThen, .inl (kI, 8, .inl g_9)), (ynotedPort, .inl (kI, 8, .inl (fun _ => 0)))]) (w1 := [(ynotedGoalThen, .inl (kI, 8, .inl g_12)), (ynotedGoal, .inl (kI, 8, .inl (fun _ => 0)))]) hP hD [2, 1] [0, 3, 4, 5, 6, 7, 8, 9, 10, 11, 12, 13, 14] rfl rfl (by decide) (by decide) hk1 hFc hP1 hD1
  generalize H1 = H at hP hS ⊢
  have hP : va_P (dC, dI) vwCl [(m0, .inr (11, [.ref ywords, .ref ykinds, .int 0, .ref ytold, .ref ykind, .ref ysalt, .ref ypace, .ref ymute, .ref ylate, .ref yfrom, .ref yto, .ref ygoal, .ref ynow, .ref ystatus, .ref ytape, .int 0, .int 0, .int 0, .int 0, .int 0, .int 0, .int 0, .int 0, .int 0, .int (-1), .ref yreach, .int (-1), .int 0, .int 0, .int 0, .int 0, .int 0, .ref ymet, .int 0, .ref ypast, .ref yisAt, .ref ywaysTo, .ref ywide, .ref ydiamondFrom, .ref ydiamondTo, .int 0, .int 0, .int 0, .int 0, .ref ynotedPort, .ref ynotedGoal, .ref ynotedHop, .ref ynotedAddress, .ref yfitting, .int 0, .ref yrowThen, .int 1, .int 0, .int 0, .ref yimageRow, .ref ypastThen, .ref ynotedPortThen, .ref ynotedGoalThen, .ref ynotedHopThen, .ref ynotedAddressThen, .ref ystatusThen])), (ynotedHop, .inl (kI, 8, .inl (fun _ => 0))), (ynotedHopThen, .inl (kI, 8, .inl (fun _ => 0))), (ynotedAddress, .inl (kI, 8, .inl (fun _ => 0))), (ynotedAddressThen, .inl (kI, 8, .inl (fun _ => 0))), (ystatus, .inl (kI, 3, .inl (fun _ => 0))), (ystatusThen, .inl (kI, 3, .inl (fun _ => 0))), (yimageRow, .inl (kI, 1019, .inl g_3)), (ynow, .inl (kI, 1019, .inl (upd (fun _ => 0) 54 5))), (ypastThen, .inl (kI, 40760, .inl g_6)), (ypast, .inl (kI, 40760, .inl (fun _ => 0))), (ynotedPortThen, .inl (kI, 8, .inl g_9)), (ynotedPort, .inl (kI, 8, .inl (fun _ => 0))), (ynotedGoalThen, .inl (kI, 8, .inl g_12)), (ynotedGoal, .inl (kI, 8, .inl (fun _ => 0)))] H := hP
  have hD : va_D A [(m0, .inr (11, [.ref ywords, .ref ykinds, .int 0, .ref ytold, .ref ykind, .ref ysalt, .ref ypace, .ref ymute, .ref ylate, .ref yfrom, .ref yto, .ref ygoal, .ref ynow, .ref ystatus, .ref ytape, .int 0, .int 0, .int 0, .int 0, .int 0, .int 0, .int 0, .int 0, .int 0, .int (-1), .ref yreach, .int (-1), .int 0, .int 0, .int 0, .int 0, .int 0, .ref ymet, .int 0, .ref ypast, .ref yisAt, .ref ywaysTo, .ref ywide, .ref ydiamondFrom, .ref ydiamondTo, .int 0, .int 0, .int 0, .int 0, .ref ynotedPort, .ref ynotedGoal, .ref ynotedHop, .ref ynotedAddress, .ref yfitting, .int 0, .ref yrowThen, .int 1, .int 0, .int 0, .ref yimageRow, .ref ypastThen, .ref ynotedPortThen, .ref ynotedGoalThen, .ref ynotedHopThen, .ref ynotedAddressThen, .ref ystatusThen])), (ynotedHop, .inl (kI, 8, .inl (fun _ => 0))), (ynotedHopThen, .inl (kI, 8, .inl (fun _ => 0))), (ynotedAddress, .inl (kI, 8, .inl (fun _ => 0))), (ynotedAddressThen, .inl (kI, 8, .inl (fun _ => 0))), (ystatus, .inl (kI, 3, .inl (fun _ => 0))), (ystatusThen, .inl (kI, 3, .inl (fun _ => 0))), (yimageRow, .inl (kI, 1019, .inl g_3)), (ynow, .inl (kI, 1019, .inl (upd (fun _ => 0) 54 5))), (ypastThen, .inl (kI, 40760, .inl g_6)), (ypast, .inl (kI, 40760, .inl (fun _ => 0))), (ynotedPortThen, .inl (kI, 8, .inl g_9)), (ynotedPort, .inl (kI, 8, .inl (fun _ => 0))), (ynotedGoalThen, .inl (kI, 8, .inl g_12)), (ynotedGoal, .inl (kI, 8, .inl (fun _ => 0)))] := hD
  refine W.widen (k := 0) (n := 0) (Nat.le_of_ble_eq_true rfl) (Nat.le_of_ble_eq_true rfl) ?_
  refine lv_aload_n hx hb dX11_image_70 rfl (lv_at hl 0 rfl) ?_
  refine va_get (D := (dC, dI)) (ci := 11) (v := .ref ynotedHopThen) (C := RX11) (T := TX11) (N := 61) hx hb hts hin11 hown hK hP 0 rfl rfl 58 (by decide) (hts (.fieldLink RX11 133 "PathProberModel" "notedHopThen" "[I") (List.mem_of_getElem? (i := 15) (by decide +kernel))) (fun _ h9 => h9) rfl dX11_image_71 ?_
  refine lv_aload_n hx hb dX11_image_74 rfl (lv_at hl 0 rfl) ?_
  refine va_get (D := (dC, dI)) (ci := 11) (v := .ref ynotedHop) (C := RX11) (T := TX11) (N := 61) hx hb hts hin11 hown hK hP 0 rfl rfl 46 (by decide) (hts (.fieldLink RX11 109 "PathProberModel" "notedHop" "[I") (List.mem_of_getElem? (i := 16) (by decide +kernel))) (fun _ h9 => h9) rfl dX11_image_75 ?_
  have hPc := hP.sub (ws' := [(ynotedHopThen, .inl (kI, 8, .inl (fun _ => 0))), (ynotedHop, .inl (kI, 8, .inl (fun _ => 0)))]) [2, 1] rfl
  have hDc := hD.sub (ws' := [(ynotedHopThen, .inl (kI, 8, .inl (fun _ => 0))), (ynotedHop, .inl (kI, 8, .inl (fun _ => 0)))]) [2, 1] (by decide) rfl
  have hFc := va_free (wc := [(ynotedHopThen, .inl (kI, 8, .inl (fun _ => 0))), (ynotedHop, .inl (kI, 8, .inl (fun _ => 0)))]) hD hS hA [2, 1] rfl
  refine va_callv (va_runS (As := [.ref ynotedHopThen, .ref ynotedHop]) (rest := []) ⟨hx, hb, hml, hown, hts⟩ (k11_copyTo_8 l dC dI kB kI kJ kZ kC kS H.size ynotedHopThen ynotedHop (fun _ => 0) (fun _ => 0)) (va_cwS 2 hts gX11_image_X11_copyTo rfl rfl rfl (by decide +kernel) ⟨Nat.le_of_ble_eq_true rfl, Nat.le_of_ble_eq_true rfl⟩) ⟨fun a U g mk q => by obtain ⟨q0, q1, qP, qE, qD⟩ := q; exact ⟨q0, q1, qP, kE_call qE, qD⟩, fun U hU hW => ⟨rfl, by rw [hU], by rw [hU]; exact hPc, kE_warm hW hE, hDc.weaken (fun _ _ _ _ => trivial)⟩⟩ rfl rfl hl.1 rfl (lv_room (Nat.le_of_ble_eq_true rfl)) dX11_image_78 ⟨Nat.le_of_ble_eq_true rfl, Nat.le_of_ble_eq_true rfl⟩) hS (fun q _ h => hFc q h) hFc (fun u t H1 locs ht hvm w14 hB hz1 hk1 hS => ?_)
  obtain ⟨g_15, hP1, hD1⟩ := hB
  rw [ht] at hP1
  try dsimp only at w14
  obtain ⟨hP, hD⟩ := va_join (wr := [(m0, .inr (11, [.ref ywords, .ref ykinds, .int 0, .ref ytold, .ref ykind, .ref ysalt, .ref ypace, .ref ymute, .ref ylate, .ref yfrom, .ref yto, .ref ygoal, .ref ynow, .ref ystatus, .ref ytape, .int 0, .int 0, .int 0, .int 0, .int 0, .int 0, .int 0, .int 0, .int 0, .int (-1), .ref yreach, .int (-1), .int 0, .int 0, .int 0, .int 0, .int 0, .ref ymet, .int 0, .ref ypast, .ref yisAt, .ref ywaysTo, .ref ywide, .ref ydiamondFrom, .ref ydiamondTo, .int 0, .int 0, .int 0, .int 0, .ref ynotedPort, .ref ynotedGoal, .ref ynotedHop, .ref ynotedAddress, .ref yfitting, .int 0, .ref yrowThen, .int 1, .int 0, .int 0, .ref yimageRow, .ref ypastThen, .ref ynotedPortThen, .ref ynotedGoalThen, .ref ynotedHopThen, .ref ynotedAddressThen, .ref ystatusThen])), (ynotedAddress, .inl (kI, 8, .inl (fun _ => 0))), (ynotedAddressThen, .inl (kI, 8, .inl (fun _ => 0))), (ystatus, .inl (kI, 3, .inl (fun _ => 0))), (ystatusThen, .inl (kI, 3, .inl (fun _ => 0))), (yimageRow, .inl (kI, 1019, .inl g_3)), (ynow, .inl (kI, 1019, .inl (upd (fun _ => 0) 54 5))), (ypastThen, .inl (kI, 40760, .inl g_6)), (ypast, .inl (kI, 40760, .inl (fun _ => 0))), (ynotedPortThen, .inl (kI, 8, .inl g_9)), (ynotedPort, .inl (kI, 8, .inl (fun _ => 0))), (ynotedGoalThen, .inl (kI, 8, .inl g_12)), (ynotedGoal, .inl (kI, 8, .inl (fun _ => 0)))]) (w1 := [(ynotedHopThen, .inl (kI, 8, .inl g_15)), (ynotedHop, .inl (kI, 8, .inl (fun _ => 0)))]) hP hD [2, 1] [0, 3, 4, 5, 6, 7, 8, 9, 10, 11, 12, 13, 14] rfl rfl (by decide) (by decide) hk1 hFc hP1 hD1
  generalize H1 = H at hP hS ⊢
  have hP : va_P (dC, dI) vwCl [(m0, .inr (11, [.ref ywords, .ref ykinds, .int 0, .ref ytold, .ref ykind, .ref ysalt, .ref ypace, .ref ymute, .ref ylate, .ref yfrom, .ref yto, .ref ygoal, .ref ynow, .ref ystatus, .ref ytape, .int 0, .int 0, .int 0, .int 0, .int 0, .int 0, .int 0, .int 0, .int 0, .int (-1), .ref yreach, .int (-1), .int 0, .int 0, .int 0, .int 0, .int 0, .ref ymet, .int 0, .ref ypast, .ref yisAt, .ref ywaysTo, .ref ywide, .ref ydiamondFrom, .ref ydiamondTo, .int 0, .int 0, .int 0, .int 0, .ref ynotedPort, .ref ynotedGoal, .ref ynotedHop, .ref ynotedAddress, .ref yfitting, .int 0, .ref yrowThen, .int 1, .int 0, .int 0, .ref yimageRow, .ref ypastThen, .ref ynotedPortThen, .ref ynotedGoalThen, .ref ynotedHopThen, .ref ynotedAddressThen, .ref ystatusThen])), (ynotedAddress, .inl (kI, 8, .inl (fun _ => 0))), (ynotedAddressThen, .inl (kI, 8, .inl (fun _ => 0))), (ystatus, .inl (kI, 3, .inl (fun _ => 0))), (ystatusThen, .inl (kI, 3, .inl (fun _ => 0))), (yimageRow, .inl (kI, 1019, .inl g_3)), (ynow, .inl (kI, 1019, .inl (upd (fun _ => 0) 54 5))), (ypastThen, .inl (kI, 40760, .inl g_6)), (ypast, .inl (kI, 40760, .inl (fun _ => 0))), (ynotedPortThen, .inl (kI, 8, .inl g_9)), (ynotedPort, .inl (kI, 8, .inl (fun _ => 0))), (ynotedGoalThen, .inl (kI, 8, .inl g_12)), (ynotedGoal, .inl (kI, 8, .inl (fun _ => 0))), (ynotedHopThen, .inl (kI, 8, .inl g_15)), (ynotedHop, .inl (kI, 8, .inl (fun _ => 0)))] H := hP
  have hD : va_D A [(m0, .inr (11, [.ref ywords, .ref ykinds, .int 0, .ref ytold, .ref ykind, .ref ysalt, .ref ypace, .ref ymute, .ref ylate, .ref yfrom, .ref yto, .ref ygoal, .ref ynow, .ref ystatus, .ref ytape, .int 0, .int 0, .int 0, .int 0, .int 0, .int 0, .int 0, .int 0, .int 0, .int (-1), .ref yreach, .int (-1), .int 0, .int 0, .int 0, .int 0, .int 0, .ref ymet, .int 0, .ref ypast, .ref yisAt, .ref ywaysTo, .ref ywide, .ref ydiamondFrom, .ref ydiamondTo, .int 0, .int 0, .int 0, .int 0, .ref ynotedPort, .ref ynotedGoal, .ref ynotedHop, .ref ynotedAddress, .ref yfitting, .int 0, .ref yrowThen, .int 1, .int 0, .int 0, .ref yimageRow, .ref ypastThen, .ref ynotedPortThen, .ref ynotedGoalThen, .ref ynotedHopThen, .ref ynotedAddressThen, .ref ystatusThen])), (ynotedAddress, .inl (kI, 8, .inl (fun _ => 0))), (ynotedAddressThen, .inl (kI, 8, .inl (fun _ => 0))), (ystatus, .inl (kI, 3, .inl (fun _ => 0))), (ystatusThen, .inl (kI, 3, .inl (fun _ => 0))), (yimageRow, .inl (kI, 1019, .inl g_3)), (ynow, .inl (kI, 1019, .inl (upd (fun _ => 0) 54 5))), (ypastThen, .inl (kI, 40760, .inl g_6)), (ypast, .inl (kI, 40760, .inl (fun _ => 0))), (ynotedPortThen, .inl (kI, 8, .inl g_9)), (ynotedPort, .inl (kI, 8, .inl (fun _ => 0))), (ynotedGoalThen, .inl (kI, 8, .inl g_12)), (ynotedGoal, .inl (kI, 8, .inl (fun _ => 0))), (ynotedHopThen, .inl (kI, 8, .inl g_15)), (ynotedHop, .inl (kI, 8, .inl (fun _ => 0)))] := hD
  refine W.widen (k := 0) (n := 0) (Nat.le_of_ble_eq_true rfl) (Nat.le_of_ble_eq_true rfl) ?_
  refine lv_aload_n hx hb dX11_image_81 rfl (lv_at hl 0 rfl) ?_
  refine va_get (D := (dC, dI)) (ci := 11) (v := .ref ynotedAddressThen) (C := RX11) (T := TX11) (N := 61) hx hb hts hin11 hown hK hP 0 rfl rfl 59 (by decide) (hts (.fieldLink RX11 136 "PathProberModel" "notedAddressThen" "[I") (List.mem_of_getElem? (i := 17) (by decide +kernel))) (fun _ h9 => h9) rfl dX11_image_82 ?_
  refine lv_aload_n hx hb dX11_image_85 rfl (lv_at hl 0 rfl) ?_
  refine va_get (D := (dC, dI)) (ci := 11) (v := .ref ynotedAddress) (C := RX11) (T := TX11) (N := 61) hx hb hts hin11 hown hK hP 0 rfl rfl 47 (by decide) (hts (.fieldLink RX11 112 "PathProberModel" "notedAddress" "[I") (List.mem_of_getElem? (i := 18) (by decide +kernel))) (fun _ h9 => h9) rfl dX11_image_86 ?_
  have hPc := hP.sub (ws' := [(ynotedAddressThen, .inl (kI, 8, .inl (fun _ => 0))), (ynotedAddress, .inl (kI, 8, .inl (fun _ => 0)))]) [2, 1] rfl
  have hDc := hD.sub (ws' := [(ynotedAddressThen, .inl (kI, 8, .inl (fun _ => 0))), (ynotedAddress, .inl (kI, 8, .inl (fun _ => 0)))]) [2, 1] (by decide) rfl
  have hFc := va_free (wc := [(ynotedAddressThen, .inl (kI, 8, .inl (fun _ => 0))), (ynotedAddress, .inl (kI, 8, .inl (fun _ => 0)))]) hD hS hA [2, 1] rfl
  refine va_callv (va_runS (As := [.ref ynotedAddressThen, .ref ynotedAddress]) (rest := []) ⟨hx, hb, hml, hown, hts⟩ (k11_copyTo_8 l dC dI kB kI kJ kZ kC kS H.size ynotedAddressThen ynotedAddress (fun _ => 0) (fun _ => 0)) (va_cwS 2 hts gX11_image_X11_copyTo rfl rfl rfl (by decide +kernel) ⟨Nat.le_of_ble_eq_true rfl, Nat.le_of_ble_eq_true rfl⟩) ⟨fun a U g mk q => by obtain ⟨q0, q1, qP, qE, qD⟩ := q; exact ⟨q0, q1, qP, kE_call qE, qD⟩, fun U hU hW => ⟨rfl, by rw [hU], by rw [hU]; exact hPc, kE_warm hW hE, hDc.weaken (fun _ _ _ _ => trivial)⟩⟩ rfl rfl hl.1 rfl (lv_room (Nat.le_of_ble_eq_true rfl)) dX11_image_89 ⟨Nat.le_of_ble_eq_true rfl, Nat.le_of_ble_eq_true rfl⟩) hS (fun q _ h => hFc q h) hFc (fun u t H1 locs ht hvm w17 hB hz1 hk1 hS => ?_)
  obtain ⟨g_18, hP1, hD1⟩ := hB
  rw [ht] at hP1
  try dsimp only at w17
  obtain ⟨hP, hD⟩ := va_join (wr := [(m0, .inr (11, [.ref ywords, .ref ykinds, .int 0, .ref ytold, .ref ykind, .ref ysalt, .ref ypace, .ref ymute, .ref ylate, .ref yfrom, .ref yto, .ref ygoal, .ref ynow, .ref ystatus, .ref ytape, .int 0, .int 0, .int 0, .int 0, .int 0, .int 0, .int 0, .int 0, .int 0, .int (-1), .ref yreach, .int (-1), .int 0, .int 0, .int 0, .int 0, .int 0, .ref ymet, .int 0, .ref ypast, .ref yisAt, .ref ywaysTo, .ref ywide, .ref ydiamondFrom, .ref ydiamondTo, .int 0, .int 0, .int 0, .int 0, .ref ynotedPort, .ref ynotedGoal, .ref ynotedHop, .ref ynotedAddress, .ref yfitting, .int 0, .ref yrowThen, .int 1, .int 0, .int 0, .ref yimageRow, .ref ypastThen, .ref ynotedPortThen, .ref ynotedGoalThen, .ref ynotedHopThen, .ref ynotedAddressThen, .ref ystatusThen])), (ystatus, .inl (kI, 3, .inl (fun _ => 0))), (ystatusThen, .inl (kI, 3, .inl (fun _ => 0))), (yimageRow, .inl (kI, 1019, .inl g_3)), (ynow, .inl (kI, 1019, .inl (upd (fun _ => 0) 54 5))), (ypastThen, .inl (kI, 40760, .inl g_6)), (ypast, .inl (kI, 40760, .inl (fun _ => 0))), (ynotedPortThen, .inl (kI, 8, .inl g_9)), (ynotedPort, .inl (kI, 8, .inl (fun _ => 0))), (ynotedGoalThen, .inl (kI, 8, .inl g_12)), (ynotedGoal, .inl (kI, 8, .inl (fun _ => 0))), (ynotedHopThen, .inl (kI, 8, .inl g_15)), (ynotedHop, .inl (kI, 8, .inl (fun _ => 0)))]) (w1 := [(ynotedAddressThen, .inl (kI, 8, .inl g_18)), (ynotedAddress, .inl (kI, 8, .inl (fun _ => 0)))]) hP hD [2, 1] [0, 3, 4, 5, 6, 7, 8, 9, 10, 11, 12, 13, 14] rfl rfl (by decide) (by decide) hk1 hFc hP1 hD1
  generalize H1 = H at hP hS ⊢
  have hP : va_P (dC, dI) vwCl [(m0, .inr (11, [.ref ywords, .ref ykinds, .int 0, .ref ytold, .ref ykind, .ref ysalt, .ref ypace, .ref ymute, .ref ylate, .ref yfrom, .ref yto, .ref ygoal, .ref ynow, .ref ystatus, .ref ytape, .int 0, .int 0, .int 0, .int 0, .int 0, .int 0, .int 0, .int 0, .int 0, .int (-1), .ref yreach, .int (-1), .int 0, .int 0, .int 0, .int 0, .int 0, .ref ymet, .int 0, .ref ypast, .ref yisAt, .ref ywaysTo, .ref ywide, .ref ydiamondFrom, .ref ydiamondTo, .int 0, .int 0, .int 0, .int 0, .ref ynotedPort, .ref ynotedGoal, .ref ynotedHop, .ref ynotedAddress, .ref yfitting, .int 0, .ref yrowThen, .int 1, .int 0, .int 0, .ref yimageRow, .ref ypastThen, .ref ynotedPortThen, .ref ynotedGoalThen, .ref ynotedHopThen, .ref ynotedAddressThen, .ref ystatusThen])), (ystatus, .inl (kI, 3, .inl (fun _ => 0))), (ystatusThen, .inl (kI, 3, .inl (fun _ => 0))), (yimageRow, .inl (kI, 1019, .inl g_3)), (ynow, .inl (kI, 1019, .inl (upd (fun _ => 0) 54 5))), (ypastThen, .inl (kI, 40760, .inl g_6)), (ypast, .inl (kI, 40760, .inl (fun _ => 0))), (ynotedPortThen, .inl (kI, 8, .inl g_9)), (ynotedPort, .inl (kI, 8, .inl (fun _ => 0))), (ynotedGoalThen, .inl (kI, 8, .inl g_12)), (ynotedGoal, .inl (kI, 8, .inl (fun _ => 0))), (ynotedHopThen, .inl (kI, 8, .inl g_15)), (ynotedHop, .inl (kI, 8, .inl (fun _ => 0))), (ynotedAddressThen, .inl (kI, 8, .inl g_18)), (ynotedAddress, .inl (kI, 8, .inl (fun _ => 0)))] H := hP
  have hD : va_D A [(m0, .inr (11, [.ref ywords, .ref ykinds, .int 0, .ref ytold, .ref ykind, .ref ysalt, .ref ypace, .ref ymute, .ref ylate, .ref yfrom, .ref yto, .ref ygoal, .ref ynow, .ref ystatus, .ref ytape, .int 0, .int 0, .int 0, .int 0, .int 0, .int 0, .int 0, .int 0, .int 0, .int (-1), .ref yreach, .int (-1), .int 0, .int 0, .int 0, .int 0, .int 0, .ref ymet, .int 0, .ref ypast, .ref yisAt, .ref ywaysTo, .ref ywide, .ref ydiamondFrom, .ref ydiamondTo, .int 0, .int 0, .int 0, .int 0, .ref ynotedPort, .ref ynotedGoal, .ref ynotedHop, .ref ynotedAddress, .ref yfitting, .int 0, .ref yrowThen, .int 1, .int 0, .int 0, .ref yimageRow, .ref ypastThen, .ref ynotedPortThen, .ref ynotedGoalThen, .ref ynotedHopThen, .ref ynotedAddressThen, .ref ystatusThen])), (ystatus, .inl (kI, 3, .inl (fun _ => 0))), (ystatusThen, .inl (kI, 3, .inl (fun _ => 0))), (yimageRow, .inl (kI, 1019, .inl g_3)), (ynow, .inl (kI, 1019, .inl (upd (fun _ => 0) 54 5))), (ypastThen, .inl (kI, 40760, .inl g_6)), (ypast, .inl (kI, 40760, .inl (fun _ => 0))), (ynotedPortThen, .inl (kI, 8, .inl g_9)), (ynotedPort, .inl (kI, 8, .inl (fun _ => 0))), (ynotedGoalThen, .inl (kI, 8, .inl g_12)), (ynotedGoal, .inl (kI, 8, .inl (fun _ => 0))), (ynotedHopThen, .inl (kI, 8, .inl g_15)), (ynotedHop, .inl (kI, 8, .inl (fun _ => 0))), (ynotedAddressThen, .inl (kI, 8, .inl g_18)), (ynotedAddress, .inl (kI, 8, .inl (fun _ => 0)))] := hD
  refine W.widen (k := 0) (n := 0) (Nat.le_of_ble_eq_true rfl) (Nat.le_of_ble_eq_true rfl) ?_
  refine lv_aload_n hx hb dX11_image_92 rfl (lv_at hl 0 rfl) ?_
  refine va_get (D := (dC, dI)) (ci := 11) (v := .ref ystatusThen) (C := RX11) (T := TX11) (N := 61) hx hb hts hin11 hown hK hP 0 rfl rfl 60 (by decide) (hts (.fieldLink RX11 139 "PathProberModel" "statusThen" "[I") (List.mem_of_getElem? (i := 19) (by decide +kernel))) (fun _ h9 => h9) rfl dX11_image_93 ?_
  refine lv_aload_n hx hb dX11_image_96 rfl (lv_at hl 0 rfl) ?_
  refine va_get (D := (dC, dI)) (ci := 11) (v := .ref ystatus) (C := RX11) (T := TX11) (N := 61) hx hb hts hin11 hown hK hP 0 rfl rfl 13 (by decide) (hts (.fieldLink RX11 63 "PathProberModel" "status" "[I") (List.mem_of_getElem? (i := 20) (by decide +kernel))) (fun _ h9 => h9) rfl dX11_image_97 ?_
  have hPc := hP.sub (ws' := [(ystatusThen, .inl (kI, 3, .inl (fun _ => 0))), (ystatus, .inl (kI, 3, .inl (fun _ => 0)))]) [2, 1] rfl
  have hDc := hD.sub (ws' := [(ystatusThen, .inl (kI, 3, .inl (fun _ => 0))), (ystatus, .inl (kI, 3, .inl (fun _ => 0)))]) [2, 1] (by decide) rfl
  have hFc := va_free (wc := [(ystatusThen, .inl (kI, 3, .inl (fun _ => 0))), (ystatus, .inl (kI, 3, .inl (fun _ => 0)))]) hD hS hA [2, 1] rfl
  refine va_callv (va_runS (As := [.ref ystatusThen, .ref ystatus]) (rest := []) ⟨hx, hb, hml, hown, hts⟩ (k11_copyTo_3 l dC dI kB kI kJ kZ kC kS H.size ystatusThen ystatus (fun _ => 0) (fun _ => 0)) (va_cwS 2 hts gX11_image_X11_copyTo rfl rfl rfl (by decide +kernel) ⟨Nat.le_of_ble_eq_true rfl, Nat.le_of_ble_eq_true rfl⟩) ⟨fun a U g mk q => by obtain ⟨q0, q1, qP, qE, qD⟩ := q; exact ⟨q0, q1, qP, kE_call qE, qD⟩, fun U hU hW => ⟨rfl, by rw [hU], by rw [hU]; exact hPc, kE_warm hW hE, hDc.weaken (fun _ _ _ _ => trivial)⟩⟩ rfl rfl hl.1 rfl (lv_room (Nat.le_of_ble_eq_true rfl)) dX11_image_100 ⟨Nat.le_of_ble_eq_true rfl, Nat.le_of_ble_eq_true rfl⟩) hS (fun q _ h => hFc q h) hFc (fun u t H1 locs ht hvm w20 hB hz1 hk1 hS => ?_)
  obtain ⟨g_21, hP1, hD1⟩ := hB
  rw [ht] at hP1
  try dsimp only at w20
  obtain ⟨hP, hD⟩ := va_join (wr := [(m0, .inr (11, [.ref ywords, .ref ykinds, .int 0, .ref ytold, .ref ykind, .ref ysalt, .ref ypace, .ref ymute, .ref ylate, .ref yfrom, .ref yto, .ref ygoal, .ref ynow, .ref ystatus, .ref ytape, .int 0, .int 0, .int 0, .int 0, .int 0, .int 0, .int 0, .int 0, .int 0, .int (-1), .ref yreach, .int (-1), .int 0, .int 0, .int 0, .int 0, .int 0, .ref ymet, .int 0, .ref ypast, .ref yisAt, .ref ywaysTo, .ref ywide, .ref ydiamondFrom, .ref ydiamondTo, .int 0, .int 0, .int 0, .int 0, .ref ynotedPort, .ref ynotedGoal, .ref ynotedHop, .ref ynotedAddress, .ref yfitting, .int 0, .ref yrowThen, .int 1, .int 0, .int 0, .ref yimageRow, .ref ypastThen, .ref ynotedPortThen, .ref ynotedGoalThen, .ref ynotedHopThen, .ref ynotedAddressThen, .ref ystatusThen])), (yimageRow, .inl (kI, 1019, .inl g_3)), (ynow, .inl (kI, 1019, .inl (upd (fun _ => 0) 54 5))), (ypastThen, .inl (kI, 40760, .inl g_6)), (ypast, .inl (kI, 40760, .inl (fun _ => 0))), (ynotedPortThen, .inl (kI, 8, .inl g_9)), (ynotedPort, .inl (kI, 8, .inl (fun _ => 0))), (ynotedGoalThen, .inl (kI, 8, .inl g_12)), (ynotedGoal, .inl (kI, 8, .inl (fun _ => 0))), (ynotedHopThen, .inl (kI, 8, .inl g_15)), (ynotedHop, .inl (kI, 8, .inl (fun _ => 0))), (ynotedAddressThen, .inl (kI, 8, .inl g_18)), (ynotedAddress, .inl (kI, 8, .inl (fun _ => 0)))]) (w1 := [(ystatusThen, .inl (kI, 3, .inl g_21)), (ystatus, .inl (kI, 3, .inl (fun _ => 0)))]) hP hD [2, 1] [0, 3, 4, 5, 6, 7, 8, 9, 10, 11, 12, 13, 14] rfl rfl (by decide) (by decide) hk1 hFc hP1 hD1
  generalize H1 = H at hP hS ⊢
  have hP : va_P (dC, dI) vwCl [(m0, .inr (11, [.ref ywords, .ref ykinds, .int 0, .ref ytold, .ref ykind, .ref ysalt, .ref ypace, .ref ymute, .ref ylate, .ref yfrom, .ref yto, .ref ygoal, .ref ynow, .ref ystatus, .ref ytape, .int 0, .int 0, .int 0, .int 0, .int 0, .int 0, .int 0, .int 0, .int 0, .int (-1), .ref yreach, .int (-1), .int 0, .int 0, .int 0, .int 0, .int 0, .ref ymet, .int 0, .ref ypast, .ref yisAt, .ref ywaysTo, .ref ywide, .ref ydiamondFrom, .ref ydiamondTo, .int 0, .int 0, .int 0, .int 0, .ref ynotedPort, .ref ynotedGoal, .ref ynotedHop, .ref ynotedAddress, .ref yfitting, .int 0, .ref yrowThen, .int 1, .int 0, .int 0, .ref yimageRow, .ref ypastThen, .ref ynotedPortThen, .ref ynotedGoalThen, .ref ynotedHopThen, .ref ynotedAddressThen, .ref ystatusThen])), (yimageRow, .inl (kI, 1019, .inl g_3)), (ynow, .inl (kI, 1019, .inl (upd (fun _ => 0) 54 5))), (ypastThen, .inl (kI, 40760, .inl g_6)), (ypast, .inl (kI, 40760, .inl (fun _ => 0))), (ynotedPortThen, .inl (kI, 8, .inl g_9)), (ynotedPort, .inl (kI, 8, .inl (fun _ => 0))), (ynotedGoalThen, .inl (kI, 8, .inl g_12)), (ynotedGoal, .inl (kI, 8, .inl (fun _ => 0))), (ynotedHopThen, .inl (kI, 8, .inl g_15)), (ynotedHop, .inl (kI, 8, .inl (fun _ => 0))), (ynotedAddressThen, .inl (kI, 8, .inl g_18)), (ynotedAddress, .inl (kI, 8, .inl (fun _ => 0))), (ystatusThen, .inl (kI, 3, .inl g_21)), (ystatus, .inl (kI, 3, .inl (fun _ => 0)))] H := hP
  have hD : va_D A [(m0, .inr (11, [.ref ywords, .ref ykinds, .int 0, .ref ytold, .ref ykind, .ref ysalt, .ref ypace, .ref ymute, .ref ylate, .ref yfrom, .ref yto, .ref ygoal, .ref ynow, .ref ystatus, .ref ytape, .int 0, .int 0, .int 0, .int 0, .int 0, .int 0, .int 0, .int 0, .int 0, .int (-1), .ref yreach, .int (-1), .int 0, .int 0, .int 0, .int 0, .int 0, .ref ymet, .int 0, .ref ypast, .ref yisAt, .ref ywaysTo, .ref ywide, .ref ydiamondFrom, .ref ydiamondTo, .int 0, .int 0, .int 0, .int 0, .ref ynotedPort, .ref ynotedGoal, .ref ynotedHop, .ref ynotedAddress, .ref yfitting, .int 0, .ref yrowThen, .int 1, .int 0, .int 0, .ref yimageRow, .ref ypastThen, .ref ynotedPortThen, .ref ynotedGoalThen, .ref ynotedHopThen, .ref ynotedAddressThen, .ref ystatusThen])), (yimageRow, .inl (kI, 1019, .inl g_3)), (ynow, .inl (kI, 1019, .inl (upd (fun _ => 0) 54 5))), (ypastThen, .inl (kI, 40760, .inl g_6)), (ypast, .inl (kI, 40760, .inl (fun _ => 0))), (ynotedPortThen, .inl (kI, 8, .inl g_9)), (ynotedPort, .inl (kI, 8, .inl (fun _ => 0))), (ynotedGoalThen, .inl (kI, 8, .inl g_12)), (ynotedGoal, .inl (kI, 8, .inl (fun _ => 0))), (ynotedHopThen, .inl (kI, 8, .inl g_15)), (ynotedHop, .inl (kI, 8, .inl (fun _ => 0))), (ynotedAddressThen, .inl (kI, 8, .inl g_18)), (ynotedAddress, .inl (kI, 8, .inl (fun _ => 0))), (ystatusThen, .inl (kI, 3, .inl g_21)), (ystatus, .inl (kI, 3, .inl (fun _ => 0)))] := hD
  refine W.widen (k := 0) (n := 0) (Nat.le_of_ble_eq_true rfl) (Nat.le_of_ble_eq_true rfl) ?_
  have hP9 := hP.sub (ws' := []) [] rfl
  have hD9 := hD.sub (ws' := []) [] (by decide) rfl
  exact W.vret hx hb hr (fun t ht hW => ⟨⟨(), rfl, trivial, by rw [ht]; exact hP9, hD9⟩, hS.F ht⟩) hS.2.2 dX11_image_103
