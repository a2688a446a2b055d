def rm_k2_hasRouter : Room := { frames := 0, cells := 0, slots := 0, locals := 0 }
set_option maxHeartbeats 4000000 in
set_option maxRecDepth 100000 in
theorem k2_hasRouter (l : Launch) (dC : Nat → ClassId) (dI : Nat → Nat → Nat) (kB kI kJ kZ kC kS : ClassId) (sz : Nat) (xa3 : Nat) (xa4 : Nat) (xa5 : Nat) (xa6 : Nat) (xa7 : Nat) (xa8 : Nat) (xa9 : Nat) (xa10 : Nat) (xa11 : Nat) (xa12 : Nat) (xa13 : Nat) (xa14 : Nat) (p0 : Int32) : Met l yX2_hasRouter wsX2_hasRouter rm_k2_hasRouter (va_Pc [.ref xa3, .int p0] (fun U => U.heap.size = sz ∧ va_P (dC, dI) vwCl [(xa3, .inr (2, [.ref xa4, .ref xa5, .ref xa6, .ref xa7, .ref xa8, .ref xa9, .ref xa10, .int 0, .int 0, .int 0, .int 5, .ref xa11, .ref xa12, .ref xa13, .ref xa14]))] U.heap ∧ kE dC dI kB kI kJ kZ kC kS U ∧ va_D (fun _ => True) [(xa3, .inr (2, [.ref xa4, .ref xa5, .ref xa6, .ref xa7, .ref xa8, .ref xa9, .ref xa10, .int 0, .int 0, .int 0, .int 5, .ref xa11, .ref xa12, .ref xa13, .ref xa14]))])) (va_Qi (fun (r : Int32) (_ : Unit) => r = 0) (fun _ t => va_P (dC, dI) vwCl [(xa3, .inr (2, [.ref xa4, .ref xa5, .ref xa6, .ref xa7, .ref xa8, .ref xa9, .ref xa10, .int 0, .int 0, .int 0, .int 5, .ref xa11, .ref xa12, .ref xa13, .ref xa14]))] t.heap ∧ va_D (va_A [(xa3, .inr (2, [.ref xa4, .ref xa5, .ref xa6, .ref xa7, .ref xa8, .ref xa9, .ref xa10, .int 0, .int 0, .int 0, .int 5, .ref xa11, .ref xa12, .ref xa13, .ref xa14]))] sz) [(xa3, .inr (2, [.ref xa4, .ref xa5, .ref xa6, .ref xa7, .ref xa8, .ref xa9, .ref xa10, .int 0, .int 0, .int 0, .int 5, .ref xa11, .ref xa12, .ref xa13, .ref xa14]))]) (va_A [(xa3, .inr (2, [.ref xa4, .ref xa5, .ref xa6, .ref xa7, .ref xa8, .ref xa9, .ref xa10, .int 0, .int 0, .int 0, .int 5, .ref xa11, .ref xa12, .ref xa13, .ref xa14]))] sz)) 0 0 (va_A [(xa3, .inr (2, [.ref xa4, .ref xa5, .ref xa6, .ref xa7, .ref xa8, .ref xa9, .ref xa10, .int 0, .int 0, .int 0, .int 5, .ref xa11, .ref xa12, .ref xa13, .ref xa14]))] sz) := by
  refine Met.ofW (cc := cX2_hasRouter) (maxL := 2) (ret := (some .boolean)) (by decide) rfl ?_
  intro p e s m args0 below meth c s₁ B hml hv
  obtain ⟨hargs, hsz, hP, hE, hD0⟩ := hv
  have hx := B.exec
  have hb := B.bytes
  have hr := B.returns
  have hts := atoms_spec (ws := wsX2_hasRouter) B.pre
  have hown : s.vm.findClass RX2 = some m.cls := findClass_of_methodNamed B.named
  have hlocks := B.notSynchronized
  have hK := hE.1
  have hin2 : ∀ w ∈ wsX20, w ∈ wsX2_hasRouter := fun _ h9 => List.mem_cons_of_mem _ (List.mem_append_right _ h9)
  subst hsz
  have hD := hD0.self (sz := s.heap.size)
  generalize hAe : va_A [(xa3, .inr (2, [.ref xa4, .ref xa5, .ref xa6, .ref xa7, .ref xa8, .ref xa9, .ref xa10, .int 0, .int 0, .int 0, .int 5, .ref xa11, .ref xa12, .ref xa13, .ref xa14]))] s.heap.size = A at hD ⊢
  have hA : ∀ q : Nat, s.heap.size ≤ q → A q := fun q h => by rw [← hAe]; exact Or.inr h
  have hS : va_S A s.heap s.heap [] := va_S.rf
  have hP : va_P (dC, dI) vwCl [(xa3, .inr (2, [.ref xa4, .ref xa5, .ref xa6, .ref xa7, .ref xa8, .ref xa9, .ref xa10, .int 0, .int 0, .int 0, .int 5, .ref xa11, .ref xa12, .ref xa13, .ref xa14]))] s.heap := hP
  have hl := lv_entry ([.ref xa3, .int p0]) (n := 2) (Nat.le_of_ble_eq_true rfl)
  have hla : entryFrame m args0 2 = entryFrame m ([.ref xa3, .int p0] : List Value).toArray 2 := by rw [hargs]
  rw [hla, lg_entry_eq]
  generalize (lg_sl ([.ref xa3, .int p0]) ++ List.replicate (2 - (lg_sl ([.ref xa3, .int p0])).length) Slot.unset).toArray = ls at hl ⊢
  have hl : lv_has ls 2 [(0, .ref xa3), (1, .int p0)] := hl
  refine lv_iload_n hx hb dX2_hasRouter_0 rfl (lv_at hl 1 rfl) ?_
  refine lv_if_lt (tgt := 16) hx hb dX2_hasRouter_1 (by decide) (fun c1 => ?_) (fun c1 => ?_)
  · refine lv_iconst (v := 0) hx hb dX2_hasRouter_16 (by decide) ?_
    have hP9 := hP.sub (ws' := [(xa3, .inr (2, [.ref xa4, .ref xa5, .ref xa6, .ref xa7, .ref xa8, .ref xa9, .ref xa10, .int 0, .int 0, .int 0, .int 5, .ref xa11, .ref xa12, .ref xa13, .ref xa14]))]) [0] rfl
    have hD9 := hD.sub (ws' := [(xa3, .inr (2, [.ref xa4, .ref xa5, .ref xa6, .ref xa7, .ref xa8, .ref xa9, .ref xa10, .int 0, .int 0, .int 0, .int 5, .ref xa11, .ref xa12, .ref xa13, .ref xa14]))]) [0] (by decide) rfl
    exact W.zret (v := 0) (ty := .boolean) hx hb hr rfl (fun t ht hW => ⟨⟨0, (), rfl, rfl, by rw [ht]; exact hP9, hD9⟩, hS.F ht⟩) hS.2.2 dX2_hasRouter_17
  · refine lv_iload_n hx hb dX2_hasRouter_4 rfl (lv_at hl 1 rfl) ?_
    refine lv_aload_n hx hb dX2_hasRouter_5 rfl (lv_at hl 0 rfl) ?_
    refine va_get (D := (dC, dI)) (ci := 2) (v := .int 0) (C := RX2) (T := TX2) (N := 15) hx hb hts hin2 hown hK hP 0 rfl rfl 7 (by decide) (hts (.fieldLink RX2 33 "PathProber$Net" "routers" "I") (List.mem_of_getElem? (i := 1) (by decide +kernel))) (fun _ h9 => h9) rfl dX2_hasRouter_6 ?_
    refine lv_icmp_ge (tgt := 16) hx hb dX2_hasRouter_9 (by decide) (fun _ => ?_) (fun c9 => absurd (by have hc1 := c1; simp only [Int32.lt_iff_toInt_lt, Int32.le_iff_toInt_le, ← Int32.toInt_inj, (by decide : (0 : Int32).toInt = 0)] at hc1 ⊢; omega) c9)
    refine lv_iconst (v := 0) hx hb dX2_hasRouter_16 (by decide) ?_
    have hP9 := hP.sub (ws' := [(xa3, .inr (2, [.ref xa4, .ref xa5, .ref xa6, .ref xa7, .ref xa8, .ref xa9, .ref xa10, .int 0, .int 0, .int 0, .int 5, .ref xa11, .ref xa12, .ref xa13, .ref xa14]))]) [0] rfl
    have hD9 := hD.sub (ws' := [(xa3, .inr (2, [.ref xa4, .ref xa5, .ref xa6, .ref xa7, .ref xa8, .ref xa9, .ref xa10, .int 0, .int 0, .int 0, .int 5, .ref xa11, .ref xa12, .ref xa13, .ref xa14]))]) [0] (by decide) rfl
    exact W.zret (v := 0) (ty := .boolean) hx hb hr rfl (fun t ht hW => ⟨⟨0, (), rfl, rfl, by rw [ht]; exact hP9, hD9⟩, hS.F ht⟩) hS.2.2 dX2_hasRouter_17
def rm_k2_hasLink : Room := { frames := 0, cells := 0, slots := 0, locals := 0 }
set_option maxHeartbeats 4000000 in
set_option maxRecDepth 100000 in
theorem k2_hasLink (l : Launch) (dC : Nat → ClassId) (dI : Nat → Nat → Nat) (kB kI kJ kZ kC kS : ClassId) (sz : Nat) (xa3 : Nat) (xa4 : Nat) (xa5 : Nat) (xa6 : Nat) (xa7 : Nat) (xa8 : Nat) (xa9 : Nat) (xa10 : Nat) (xa11 : Nat) (xa12 : Nat) (xa13 : Nat) (xa14 : Nat) (p0 : Int32) : Met l yX2_hasLink wsX2_hasLink rm_k2_hasLink (va_Pc [.ref xa3, .int p0] (fun U => U.heap.size = sz ∧ va_P (dC, dI) vwCl [(xa3, .inr (2, [.ref xa4, .ref xa5, .ref xa6, .ref xa7, .ref xa8, .ref xa9, .ref xa10, .int 0, .int 0, .int 0, .int 5, .ref xa11, .ref xa12, .ref xa13, .ref xa14]))] U.heap ∧ kE dC dI kB kI kJ kZ kC kS U ∧ va_D (fun _ => True) [(xa3, .inr (2, [.ref xa4, .ref xa5, .ref xa6, .ref xa7, .ref xa8, .ref xa9, .ref xa10, .int 0, .int 0, .int 0, .int 5, .ref xa11, .ref xa12, .ref xa13, .ref xa14]))])) (va_Qi (fun (r : Int32) (_ : Unit) => r = 0) (fun _ t => va_P (dC, dI) vwCl [(xa3, .inr (2, [.ref xa4, .ref xa5, .ref xa6, .ref xa7, .ref xa8, .ref xa9, .ref xa10, .int 0, .int 0, .int 0, .int 5, .ref xa11, .ref xa12, .ref xa13, .ref xa14]))] t.heap ∧ va_D (va_A [(xa3, .inr (2, [.ref xa4, .ref xa5, .ref xa6, .ref xa7, .ref xa8, .ref xa9, .ref xa10, .int 0, .int 0, .int 0, .int 5, .ref xa11, .ref xa12, .ref xa13, .ref xa14]))] sz) [(xa3, .inr (2, [.ref xa4, .ref xa5, .ref xa6, .ref xa7, .ref xa8, .ref xa9, .ref xa10, .int 0, .int 0, .int 0, .int 5, .ref xa11, .ref xa12, .ref xa13, .ref xa14]))]) (va_A [(xa3, .inr (2, [.ref xa4, .ref xa5, .ref xa6, .ref xa7, .ref xa8, .ref xa9, .ref xa10, .int 0, .int 0, .int 0, .int 5, .ref xa11, .ref xa12, .ref xa13, .ref xa14]))] sz)) 0 0 (va_A [(xa3, .inr (2, [.ref xa4, .ref xa5, .ref xa6, .ref xa7, .ref xa8, .ref xa9, .ref xa10, .int 0, .int 0, .int 0, .int 5, .ref xa11, .ref xa12, .ref xa13, .ref xa14]))] sz) := by
  refine Met.ofW (cc := cX2_hasLink) (maxL := 2) (ret := (some .boolean)) (by decide) rfl ?_
  intro p e s m args0 below meth c s₁ B hml hv
  obtain ⟨hargs, hsz, hP, hE, hD0⟩ := hv
  have hx := B.exec
  have hb := B.bytes
  have hr := B.returns
  have hts := atoms_spec (ws := wsX2_hasLink) B.pre
  have hown : s.vm.findClass RX2 = some m.cls := findClass_of_methodNamed B.named
  have hlocks := B.notSynchronized
  have hK := hE.1
  have hin2 : ∀ w ∈ wsX20, w ∈ wsX2_hasLink := fun _ h9 => List.mem_cons_of_mem _ (List.mem_append_right _ h9)
  subst hsz
  have hD := hD0.self (sz := s.heap.size)
  generalize hAe : va_A [(xa3, .inr (2, [.ref xa4, .ref xa5, .ref xa6, .ref xa7, .ref xa8, .ref xa9, .ref xa10, .int 0, .int 0, .int 0, .int 5, .ref xa11, .ref xa12, .ref xa13, .ref xa14]))] s.heap.size = A at hD ⊢
  have hA : ∀ q : Nat, s.heap.size ≤ q → A q := fun q h => by rw [← hAe]; exact Or.inr h
  have hS : va_S A s.heap s.heap [] := va_S.rf
  have hP : va_P (dC, dI) vwCl [(xa3, .inr (2, [.ref xa4, .ref xa5, .ref xa6, .ref xa7, .ref xa8, .ref xa9, .ref xa10, .int 0, .int 0, .int 0, .int 5, .ref xa11, .ref xa12, .ref xa13, .ref xa14]))] s.heap := hP
  have hl := lv_entry ([.ref xa3, .int p0]) (n := 2) (Nat.le_of_ble_eq_true rfl)
  have hla : entryFrame m args0 2 = entryFrame m ([.ref xa3, .int p0] : List Value).toArray 2 := by rw [hargs]
  rw [hla, lg_entry_eq]
  generalize (lg_sl ([.ref xa3, .int p0]) ++ List.replicate (2 - (lg_sl ([.ref xa3, .int p0])).length) Slot.unset).toArray = ls at hl ⊢
  have hl : lv_has ls 2 [(0, .ref xa3), (1, .int p0)] := hl
  refine lv_iload_n hx hb dX2_hasLink_0 rfl (lv_at hl 1 rfl) ?_
  refine lv_if_lt (tgt := 16) hx hb dX2_hasLink_1 (by decide) (fun c1 => ?_) (fun c1 => ?_)
  · refine lv_iconst (v := 0) hx hb dX2_hasLink_16 (by decide) ?_
    have hP9 := hP.sub (ws' := [(xa3, .inr (2, [.ref xa4, .ref xa5, .ref xa6, .ref xa7, .ref xa8, .ref xa9, .ref xa10, .int 0, .int 0, .int 0, .int 5, .ref xa11, .ref xa12, .ref xa13, .ref xa14]))]) [0] rfl
    have hD9 := hD.sub (ws' := [(xa3, .inr (2, [.ref xa4, .ref xa5, .ref xa6, .ref xa7, .ref xa8, .ref xa9, .ref xa10, .int 0, .int 0, .int 0, .int 5, .ref xa11, .ref xa12, .ref xa13, .ref xa14]))]) [0] (by decide) rfl
    exact W.zret (v := 0) (ty := .boolean) hx hb hr rfl (fun t ht hW => ⟨⟨0, (), rfl, rfl, by rw [ht]; exact hP9, hD9⟩, hS.F ht⟩) hS.2.2 dX2_hasLink_17
  · refine lv_iload_n hx hb dX2_hasLink_4 rfl (lv_at hl 1 rfl) ?_
    refine lv_aload_n hx hb dX2_hasLink_5 rfl (lv_at hl 0 rfl) ?_
    refine va_get (D := (dC, dI)) (ci := 2) (v := .int 0) (C := RX2) (T := TX2) (N := 15) hx hb hts hin2 hown hK hP 0 rfl rfl 8 (by decide) (hts (.fieldLink RX2 37 "PathProber$Net" "links" "I") (List.mem_of_getElem? (i := 1) (by decide +kernel))) (fun _ h9 => h9) rfl dX2_hasLink_6 ?_
    refine lv_icmp_ge (tgt := 16) hx hb dX2_hasLink_9 (by decide) (fun _ => ?_) (fun c9 => absurd (by have hc1 := c1; simp only [Int32.lt_iff_toInt_lt, Int32.le_iff_toInt_le, ← Int32.toInt_inj, (by decide : (0 : Int32).toInt = 0)] at hc1 ⊢; omega) c9)
    refine lv_iconst (v := 0) hx hb dX2_hasLink_16 (by decide) ?_
    have hP9 := hP.sub (ws' := [(xa3, .inr (2, [.ref xa4, .ref xa5, .ref xa6, .ref xa7, .ref xa8, .ref xa9, .ref xa10, .int 0, .int 0, .int 0, .int 5, .ref xa11, .ref xa12, .ref xa13, .ref xa14]))]) [0] rfl
    have hD9 := hD.sub (ws' := [(xa3, .inr (2, [.ref xa4, .ref xa5, .ref xa6, .ref xa7, .ref xa8, .ref xa9, .ref xa10, .int 0, .int 0, .int 0, .int 5, .ref xa11, .ref xa12, .ref xa13, .ref xa14]))]) [0] (by decide) rfl
    exact W.zret (v := 0) (ty := .boolean) hx hb hr rfl (fun t ht hW => ⟨⟨0, (), rfl, rfl, by rw [ht]; exact hP9, hD9⟩, hS.F ht⟩) hS.2.2 dX2_hasLink_17
def rm_k2_hasGoal : Room := { frames := 0, cells := 0, slots := 0, locals := 0 }
set_option maxHeartbeats 4000000 in
set_option maxRecDepth 100000 in
theorem k2_hasGoal (l : Launch) (dC : Nat → ClassId) (dI : Nat → Nat → Nat) (kB kI kJ kZ kC kS : ClassId) (sz : Nat) (xa3 : Nat) (xa4 : Nat) (xa5 : Nat) (xa6 : Nat) (xa7 : Nat) (xa8 : Nat) (xa9 : Nat) (xa10 : Nat) (xa11 : Nat) (xa12 : Nat) (xa13 : Nat) (xa14 : Nat) (p0 : Int32) : Met l yX2_hasGoal wsX2_hasGoal rm_k2_hasGoal (va_Pc [.ref xa3, .int p0] (fun U => U.heap.size = sz ∧ va_P (dC, dI) vwCl [(xa3, .inr (2, [.ref xa4, .ref xa5, .ref xa6, .ref xa7, .ref xa8, .ref xa9, .ref xa10, .int 0, .int 0, .int 0, .int 5, .ref xa11, .ref xa12, .ref xa13, .ref xa14]))] U.heap ∧ kE dC dI kB kI kJ kZ kC kS U ∧ va_D (fun _ => True) [(xa3, .inr (2, [.ref xa4, .ref xa5, .ref xa6, .ref xa7, .ref xa8, .ref xa9, .ref xa10, .int 0, .int 0, .int 0, .int 5, .ref xa11, .ref xa12, .ref xa13, .ref xa14]))])) (va_Qi (fun (r : Int32) (_ : Unit) => r = 0) (fun _ t => va_P (dC, dI) vwCl [(xa3, .inr (2, [.ref xa4, .ref xa5, .ref xa6, .ref xa7, .ref xa8, .ref xa9, .ref xa10, .int 0, .int 0, .int 0, .int 5, .ref xa11, .ref xa12, .ref xa13, .ref xa14]))] t.heap ∧ va_D (va_A [(xa3, .inr (2, [.ref xa4, .ref xa5, .ref xa6, .ref xa7, .ref xa8, .ref xa9, .ref xa10, .int 0, .int 0, .int 0, .int 5, .ref xa11, .ref xa12, .ref xa13, .ref xa14]))] sz) [(xa3, .inr (2, [.ref xa4, .ref xa5, .ref xa6, .ref xa7, .ref xa8, .ref xa9, .ref xa10, .int 0, .int 0, .int 0, .int 5, .ref xa11, .ref xa12, .ref xa13, .ref xa14]))]) (va_A [(xa3, .inr (2, [.ref xa4, .ref xa5, .ref xa6, .ref xa7, .ref xa8, .ref xa9, .ref xa10, .int 0, .int 0, .int 0, .int 5, .ref xa11, .ref xa12, .ref xa13, .ref xa14]))] sz)) 0 0 (va_A [(xa3, .inr (2, [.ref xa4, .ref xa5, .ref xa6, .ref xa7, .ref xa8, .ref xa9, .ref xa10, .int 0, .int 0, .int 0, .int 5, .ref xa11, .ref xa12, .ref xa13, .ref xa14]))] sz) := by
  refine Met.ofW (cc := cX2_hasGoal) (maxL := 2) (ret := (some .boolean)) (by decide) rfl ?_
  intro p e s m args0 below meth c s₁ B hml hv
  obtain ⟨hargs, hsz, hP, hE, hD0⟩ := hv
  have hx := B.exec
  have hb := B.bytes
  have hr := B.returns
  have hts := atoms_spec (ws := wsX2_hasGoal) B.pre
  have hown : s.vm.findClass RX2 = some m.cls := findClass_of_methodNamed B.named
  have hlocks := B.notSynchronized
  have hK := hE.1
  have hin2 : ∀ w ∈ wsX20, w ∈ wsX2_hasGoal := fun _ h9 => List.mem_cons_of_mem _ (List.mem_append_right _ h9)
  subst hsz
  have hD := hD0.self (sz := s.heap.size)
  generalize hAe : va_A [(xa3, .inr (2, [.ref xa4, .ref xa5, .ref xa6, .ref xa7, .ref xa8, .ref xa9, .ref xa10, .int 0, .int 0, .int 0, .int 5, .ref xa11, .ref xa12, .ref xa13, .ref xa14]))] s.heap.size = A at hD ⊢
  have hA : ∀ q : Nat, s.heap.size ≤ q → A q := fun q h => by rw [← hAe]; exact Or.inr h
  have hS : va_S A s.heap s.heap [] := va_S.rf
  have hP : va_P (dC, dI) vwCl [(xa3, .inr (2, [.ref xa4, .ref xa5, .ref xa6, .ref xa7, .ref xa8, .ref xa9, .ref xa10, .int 0, .int 0, .int 0, .int 5, .ref xa11, .ref xa12, .ref xa13, .ref xa14]))] s.heap := hP
  have hl := lv_entry ([.ref xa3, .int p0]) (n := 2) (Nat.le_of_ble_eq_true rfl)
  have hla : entryFrame m args0 2 = entryFrame m ([.ref xa3, .int p0] : List Value).toArray 2 := by rw [hargs]
  rw [hla, lg_entry_eq]
  generalize (lg_sl ([.ref xa3, .int p0]) ++ List.replicate (2 - (lg_sl ([.ref xa3, .int p0])).length) Slot.unset).toArray = ls at hl ⊢
  have hl : lv_has ls 2 [(0, .ref xa3), (1, .int p0)] := hl
  refine lv_iload_n hx hb dX2_hasGoal_0 rfl (lv_at hl 1 rfl) ?_
  refine lv_if_lt (tgt := 16) hx hb dX2_hasGoal_1 (by decide) (fun c1 => ?_) (fun c1 => ?_)
  · refine lv_iconst (v := 0) hx hb dX2_hasGoal_16 (by decide) ?_
    have hP9 := hP.sub (ws' := [(xa3, .inr (2, [.ref xa4, .ref xa5, .ref xa6, .ref xa7, .ref xa8, .ref xa9, .ref xa10, .int 0, .int 0, .int 0, .int 5, .ref xa11, .ref xa12, .ref xa13, .ref xa14]))]) [0] rfl
    have hD9 := hD.sub (ws' := [(xa3, .inr (2, [.ref xa4, .ref xa5, .ref xa6, .ref xa7, .ref xa8, .ref xa9, .ref xa10, .int 0, .int 0, .int 0, .int 5, .ref xa11, .ref xa12, .ref xa13, .ref xa14]))]) [0] (by decide) rfl
    exact W.zret (v := 0) (ty := .boolean) hx hb hr rfl (fun t ht hW => ⟨⟨0, (), rfl, rfl, by rw [ht]; exact hP9, hD9⟩, hS.F ht⟩) hS.2.2 dX2_hasGoal_17
  · refine lv_iload_n hx hb dX2_hasGoal_4 rfl (lv_at hl 1 rfl) ?_
    refine lv_aload_n hx hb dX2_hasGoal_5 rfl (lv_at hl 0 rfl) ?_
    refine va_get (D := (dC, dI)) (ci := 2) (v := .int 0) (C := RX2) (T := TX2) (N := 15) hx hb hts hin2 hown hK hP 0 rfl rfl 9 (by decide) (hts (.fieldLink RX2 40 "PathProber$Net" "goals" "I") (List.mem_of_getElem? (i := 1) (by decide +kernel))) (fun _ h9 => h9) rfl dX2_hasGoal_6 ?_
    refine lv_icmp_ge (tgt := 16) hx hb dX2_hasGoal_9 (by decide) (fun _ => ?_) (fun c9 => absurd (by have hc1 := c1; simp only [Int32.lt_iff_toInt_lt, Int32.le_iff_toInt_le, ← Int32.toInt_inj, (by decide : (0 : Int32).toInt = 0)] at hc1 ⊢; omega) c9)
    refine lv_iconst (v := 0) hx hb dX2_hasGoal_16 (by decide) ?_
    have hP9 := hP.sub (ws' := [(xa3, .inr (2, [.ref xa4, .ref xa5, .ref xa6, .ref xa7, .ref xa8, .ref xa9, .ref xa10, .int 0, .int 0, .int 0, .int 5, .ref xa11, .ref xa12, .ref xa13, .ref xa14]))]) [0] rfl
    have hD9 := hD.sub (ws' := [(xa3, .inr (2, [.ref xa4, .ref xa5, .ref xa6, .ref xa7, .ref xa8, .ref xa9, .ref xa10, .int 0, .int 0, .int 0, .int 5, .ref xa11, .ref xa12, .ref xa13, .ref xa14]))]) [0] (by decide) rfl
    exact W.zret (v := 0) (ty := .boolean) hx hb hr rfl (fun t ht hW => ⟨⟨0, (), rfl, rfl, by rw [ht]; exact hP9, hD9⟩, hS.F ht⟩) hS.2.2 dX2_hasGoal_17
def rm_k2_hasAddress : Room := { frames := 0, cells := 0, slots := 0, locals := 0 }
set_option maxHeartbeats 4000000 in
set_option maxRecDepth 100000 in
theorem k2_hasAddress (l : Launch) (dC : Nat → ClassId) (dI : Nat → Nat → Nat) (kB kI kJ kZ kC kS : ClassId) (sz : Nat) (xa3 : Nat) (xa4 : Nat) (xa5 : Nat) (xa6 : Nat) (xa7 : Nat) (xa8 : Nat) (xa9 : Nat) (xa10 : Nat) (xa11 : Nat) (xa12 : Nat) (xa13 : Nat) (xa14 : Nat) (p0 : Int32) : Met l yX2_hasAddress wsX2_hasAddress rm_k2_hasAddress (va_Pc [.ref xa3, .int p0] (fun U => U.heap.size = sz ∧ va_P (dC, dI) vwCl [(xa3, .inr (2, [.ref xa4, .ref xa5, .ref xa6, .ref xa7, .ref xa8, .ref xa9, .ref xa10, .int 0, .int 0, .int 0, .int 5, .ref xa11, .ref xa12, .ref xa13, .ref xa14]))] U.heap ∧ kE dC dI kB kI kJ kZ kC kS U ∧ va_D (fun _ => True) [(xa3, .inr (2, [.ref xa4, .ref xa5, .ref xa6, .ref xa7, .ref xa8, .ref xa9, .ref xa10, .int 0, .int 0, .int 0, .int 5, .ref xa11, .ref xa12, .ref xa13, .ref xa14]))])) (va_Qi (fun (r : Int32) (_ : Unit) => r = 0) (fun _ t => va_P (dC, dI) vwCl [(xa3, .inr (2, [.ref xa4, .ref xa5, .ref xa6, .ref xa7, .ref xa8, .ref xa9, .ref xa10, .int 0, .int 0, .int 0, .int 5, .ref xa11, .ref xa12, .ref xa13, .ref xa14]))] t.heap ∧ va_D (va_A [(xa3, .inr (2, [.ref xa4, .ref xa5, .ref xa6, .ref xa7, .ref xa8, .ref xa9, .ref xa10, .int 0, .int 0, .int 0, .int 5, .ref xa11, .ref xa12, .ref xa13, .ref xa14]))] sz) [(xa3, .inr (2, [.ref xa4, .ref xa5, .ref xa6, .ref xa7, .ref xa8, .ref xa9, .ref xa10, .int 0, .int 0, .int 0, .int 5, .ref xa11, .ref xa12, .ref xa13, .ref xa14]))]) (va_A [(xa3, .inr (2, [.ref xa4, .ref xa5, .ref xa6, .ref xa7, .ref xa8, .ref xa9, .ref xa10, .int 0, .int 0, .int 0, .int 5, .ref xa11, .ref xa12, .ref xa13, .ref xa14]))] sz)) 0 0 (va_A [(xa3, .inr (2, [.ref xa4, .ref xa5, .ref xa6, .ref xa7, .ref xa8, .ref xa9, .ref xa10, .int 0, .int 0, .int 0, .int 5, .ref xa11, .ref xa12, .ref xa13, .ref xa14]))] sz) := by
  refine Met.ofW (cc := cX2_hasAddress) (maxL := 2) (ret := (some .boolean)) (by decide) rfl ?_
  intro p e s m args0 below meth c s₁ B hml hv
  obtain ⟨hargs, hsz, hP, hE, hD0⟩ := hv
  have hx := B.exec
  have hb := B.bytes
  have hr := B.returns
  have hts := atoms_spec (ws := wsX2_hasAddress) B.pre
  have hown : s.vm.findClass RX2 = some m.cls := findClass_of_methodNamed B.named
  have hlocks := B.notSynchronized
  have hK := hE.1
  have hin2 : ∀ w ∈ wsX20, w ∈ wsX2_hasAddress := fun _ h9 => List.mem_cons_of_mem _ (List.mem_append_right _ h9)
  subst hsz
  have hD := hD0.self (sz := s.heap.size)
  generalize hAe : va_A [(xa3, .inr (2, [.ref xa4, .ref xa5, .ref xa6, .ref xa7, .ref xa8, .ref xa9, .ref xa10, .int 0, .int 0, .int 0, .int 5, .ref xa11, .ref xa12, .ref xa13, .ref xa14]))] s.heap.size = A at hD ⊢
  have hA : ∀ q : Nat, s.heap.size ≤ q → A q := fun q h => by rw [← hAe]; exact Or.inr h
  have hS : va_S A s.heap s.heap [] := va_S.rf
  have hP : va_P (dC, dI) vwCl [(xa3, .inr (2, [.ref xa4, .ref xa5, .ref xa6, .ref xa7, .ref xa8, .ref xa9, .ref xa10, .int 0, .int 0, .int 0, .int 5, .ref xa11, .ref xa12, .ref xa13, .ref xa14]))] s.heap := hP
  have hl := lv_entry ([.ref xa3, .int p0]) (n := 2) (Nat.le_of_ble_eq_true rfl)
  have hla : entryFrame m args0 2 = entryFrame m ([.ref xa3, .int p0] : List Value).toArray 2 := by rw [hargs]
  rw [hla, lg_entry_eq]
  generalize (lg_sl ([.ref xa3, .int p0]) ++ List.replicate (2 - (lg_sl ([.ref xa3, .int p0])).length) Slot.unset).toArray = ls at hl ⊢
  have hl : lv_has ls 2 [(0, .ref xa3), (1, .int p0)] := hl
  refine lv_aload_n hx hb dX2_hasAddress_0 rfl (lv_at hl 0 rfl) ?_
  refine va_get (D := (dC, dI)) (ci := 2) (v := .int 0) (C := RX2) (T := TX2) (N := 15) hx hb hts hin2 hown hK hP 0 rfl rfl 7 (by decide) (hts (.fieldLink RX2 33 "PathProber$Net" "routers" "I") (List.mem_of_getElem? (i := 1) (by decide +kernel))) (fun _ h9 => h9) rfl dX2_hasAddress_1 ?_
  refine lv_if_le (tgt := 23) hx hb dX2_hasAddress_4 (by decide) (fun _ => ?_) (fun c9 => absurd (by decide) c9)
  refine lv_iconst (v := 0) hx hb dX2_hasAddress_23 (by decide) ?_
  have hP9 := hP.sub (ws' := [(xa3, .inr (2, [.ref xa4, .ref xa5, .ref xa6, .ref xa7, .ref xa8, .ref xa9, .ref xa10, .int 0, .int 0, .int 0, .int 5, .ref xa11, .ref xa12, .ref xa13, .ref xa14]))]) [0] rfl
  have hD9 := hD.sub (ws' := [(xa3, .inr (2, [.ref xa4, .ref xa5, .ref xa6, .ref xa7, .ref xa8, .ref xa9, .ref xa10, .int 0, .int 0, .int 0, .int 5, .ref xa11, .ref xa12, .ref xa13, .ref xa14]))]) [0] (by decide) rfl
  exact W.zret (v := 0) (ty := .boolean) hx hb hr rfl (fun t ht hW => ⟨⟨0, (), rfl, rfl, by rw [ht]; exact hP9, hD9⟩, hS.F ht⟩) hS.2.2 dX2_hasAddress_24
def rm_k10_isPort : Room := { frames := 0, cells := 0, slots := 0, locals := 0 }
set_option maxHeartbeats 4000000 in
set_option maxRecDepth 100000 in
theorem k10_isPort (l : Launch) (dC : Nat → ClassId) (dI : Nat → Nat → Nat) (kB kI kJ kZ kC kS : ClassId) (sz : Nat) (p0 : Int32) : Met l yX10_isPort wsX10_isPort rm_k10_isPort (va_Pc [.int p0] (fun U => U.heap.size = sz ∧ va_P (dC, dI) vwCl [] U.heap ∧ kE dC dI kB kI kJ kZ kC kS U ∧ va_D (fun _ => True) [])) (va_Qi (fun (r : Int32) (_ : Unit) => True) (fun _ t => va_P (dC, dI) vwCl [] t.heap ∧ va_D (va_A [] sz) []) (va_A [] sz)) 0 0 (va_A [] sz) := by
  refine Met.ofW (cc := cX10_isPort) (maxL := 1) (ret := (some .boolean)) (by decide) rfl ?_
  intro p e s m args0 below meth c s₁ B hml hv
  obtain ⟨hargs, hsz, hP, hE, hD0⟩ := hv
  have hx := B.exec
  have hb := B.bytes
  have hr := B.returns
  have hts := atoms_spec (ws := wsX10_isPort) B.pre
  have hown : s.vm.findClass RX10 = some m.cls := findClass_of_methodNamed B.named
  have hlocks := B.notSynchronized
  have hK := hE.1
  subst hsz
  have hD := hD0.self (sz := s.heap.size)
  generalize hAe : va_A [] s.heap.size = A at hD ⊢
  have hA : ∀ q : Nat, s.heap.size ≤ q → A q := fun q h => by rw [← hAe]; exact Or.inr h
  have hS : va_S A s.heap s.heap [] := va_S.rf
  have hP : va_P (dC, dI) vwCl [] s.heap := hP
  have hl := lv_entry ([.int p0]) (n := 1) (Nat.le_of_ble_eq_true rfl)
  have hla : entryFrame m args0 1 = entryFrame m ([.int p0] : List Value).toArray 1 := by rw [hargs]
  rw [hla, lg_entry_eq]
  generalize (lg_sl ([.int p0]) ++ List.replicate (1 - (lg_sl ([.int p0])).length) Slot.unset).toArray = ls at hl ⊢
  have hl : lv_has ls 1 [(0, .int p0)] := hl
  refine lv_iload_n hx hb dX10_isPort_0 rfl (lv_at hl 0 rfl) ?_
  refine lv_if_lt (tgt := 14) hx hb dX10_isPort_1 (by decide) (fun c1 => ?_) (fun c1 => ?_)
  · refine lv_iconst (v := 0) hx hb dX10_isPort_14 (by decide) ?_
    have hP9 := hP.sub (ws' := []) [] rfl
    have hD9 := hD.sub (ws' := []) [] (by decide) rfl
    exact W.zret (v := 0) (ty := .boolean) hx hb hr rfl (fun t ht hW => ⟨⟨0, (), rfl, trivial, by rw [ht]; exact hP9, hD9⟩, hS.F ht⟩) hS.2.2 dX10_isPort_15
  · refine lv_iload_n hx hb dX10_isPort_4 rfl (lv_at hl 0 rfl) ?_
    refine lv_bipush (v := 32) hx hb dX10_isPort_5 (by decide) ?_
    refine lv_icmp_ge (tgt := 14) hx hb dX10_isPort_7 (by decide) (fun c2 => ?_) (fun c2 => ?_)
    · refine lv_iconst (v := 0) hx hb dX10_isPort_14 (by decide) ?_
      have hP9 := hP.sub (ws' := []) [] rfl
      have hD9 := hD.sub (ws' := []) [] (by decide) rfl
      exact W.zret (v := 0) (ty := .boolean) hx hb hr rfl (fun t ht hW => ⟨⟨0, (), rfl, trivial, by rw [ht]; exact hP9, hD9⟩, hS.F ht⟩) hS.2.2 dX10_isPort_15
    · refine lv_iconst (v := 1) hx hb dX10_isPort_10 (by decide) ?_
      refine lv_goto (tgt := 15) hx hb dX10_isPort_11 (by decide) ?_
      have hP9 := hP.sub (ws' := []) [] rfl
      have hD9 := hD.sub (ws' := []) [] (by decide) rfl
      exact W.zret (v := 1) (ty := .boolean) hx hb hr rfl (fun t ht hW => ⟨⟨1, (), rfl, trivial, by rw [ht]; exact hP9, hD9⟩, hS.F ht⟩) hS.2.2 dX10_isPort_15
def rm_k10_isHops : Room := { frames := 0, cells := 0, slots := 0, locals := 0 }
set_option maxHeartbeats 4000000 in
set_option maxRecDepth 100000 in
theorem k10_isHops (l : Launch) (dC : Nat → ClassId) (dI : Nat → Nat → Nat) (kB kI kJ kZ kC kS : ClassId) (sz : Nat) (p0 : Int32) : Met l yX10_isHops wsX10_isHops rm_k10_isHops (va_Pc [.int p0] (fun U => U.heap.size = sz ∧ va_P (dC, dI) vwCl [] U.heap ∧ kE dC dI kB kI kJ kZ kC kS U ∧ va_D (fun _ => True) [])) (va_Qi (fun (r : Int32) (_ : Unit) => True) (fun _ t => va_P (dC, dI) vwCl [] t.heap ∧ va_D (va_A [] sz) []) (va_A [] sz)) 0 0 (va_A [] sz) := by
  refine Met.ofW (cc := cX10_isHops) (maxL := 1) (ret := (some .boolean)) (by decide) rfl ?_
  intro p e s m args0 below meth c s₁ B hml hv
  obtain ⟨hargs, hsz, hP, hE, hD0⟩ := hv
  have hx := B.exec
  have hb := B.bytes
  have hr := B.returns
  have hts := atoms_spec (ws := wsX10_isHops) B.pre
  have hown : s.vm.findClass RX10 = some m.cls := findClass_of_methodNamed B.named
  have hlocks := B.notSynchronized
  have hK := hE.1
  subst hsz
  have hD := hD0.self (sz := s.heap.size)
  generalize hAe : va_A [] s.heap.size = A at hD ⊢
  have hA : ∀ q : Nat, s.heap.size ≤ q → A q := fun q h => by rw [← hAe]; exact Or.inr h
  have hS : va_S A s.heap s.heap [] := va_S.rf
  have hP : va_P (dC, dI) vwCl [] s.heap := hP
  have hl := lv_entry ([.int p0]) (n := 1) (Nat.le_of_ble_eq_true rfl)
  have hla : entryFrame m args0 1 = entryFrame m ([.int p0] : List Value).toArray 1 := by rw [hargs]
  rw [hla, lg_entry_eq]
  generalize (lg_sl ([.int p0]) ++ List.replicate (1 - (lg_sl ([.int p0])).length) Slot.unset).toArray = ls at hl ⊢
  have hl : lv_has ls 1 [(0, .int p0)] := hl
  refine lv_iload_n hx hb dX10_isHops_0 rfl (lv_at hl 0 rfl) ?_
  refine lv_iconst (v := 1) hx hb dX10_isHops_1 (by decide) ?_
  refine lv_icmp_lt (tgt := 15) hx hb dX10_isHops_2 (by decide) (fun c1 => ?_) (fun c1 => ?_)
  · refine lv_iconst (v := 0) hx hb dX10_isHops_15 (by decide) ?_
    have hP9 := hP.sub (ws' := []) [] rfl
    have hD9 := hD.sub (ws' := []) [] (by decide) rfl
    exact W.zret (v := 0) (ty := .boolean) hx hb hr rfl (fun t ht hW => ⟨⟨0, (), rfl, trivial, by rw [ht]; exact hP9, hD9⟩, hS.F ht⟩) hS.2.2 dX10_isHops_16
  · refine lv_iload_n hx hb dX10_isHops_5 rfl (lv_at hl 0 rfl) ?_
    refine lv_bipush (v := 10) hx hb dX10_isHops_6 (by decide) ?_
    refine lv_icmp_gt (tgt := 15) hx hb dX10_isHops_8 (by decide) (fun c2 => ?_) (fun c2 => ?_)
    · refine lv_iconst (v := 0) hx hb dX10_isHops_15 (by decide) ?_
      have hP9 := hP.sub (ws' := []) [] rfl
      have hD9 := hD.sub (ws' := []) [] (by decide) rfl
      exact W.zret (v := 0) (ty := .boolean) hx hb hr rfl (fun t ht hW => ⟨⟨0, (), rfl, trivial, by rw [ht]; exact hP9, hD9⟩, hS.F ht⟩) hS.2.2 dX10_isHops_16
    · refine lv_iconst (v := 1) hx hb dX10_isHops_11 (by decide) ?_
      refine lv_goto (tgt := 16) hx hb dX10_isHops_12 (by decide) ?_
      have hP9 := hP.sub (ws' := []) [] rfl
      have hD9 := hD.sub (ws' := []) [] (by decide) rfl
      exact W.zret (v := 1) (ty := .boolean) hx hb hr rfl (fun t ht hW => ⟨⟨1, (), rfl, trivial, by rw [ht]; exact hP9, hD9⟩, hS.F ht⟩) hS.2.2 dX10_isHops_16
def rm_k10_mustBePort : Room := { frames := 6, cells := 1, slots := 6, locals := 82 }
set_option maxHeartbeats 4000000 in
set_option maxRecDepth 100000 in
theorem k10_mustBePort (l : Launch) (hst : l.stackTraces = false) (dC : Nat → ClassId) (dI : Nat → Nat → Nat) (kB kI kJ kZ kC kS : ClassId) (sz : Nat) (p0 : Int32) : vx_Met l yX10_mustBePort wsX10_mustBePort rm_k10_mustBePort (va_Pc [.int p0] (fun U => U.heap.size = sz ∧ va_P (dC, dI) vwCl [] U.heap ∧ kE dC dI kB kI kJ kZ kC kS U ∧ va_D (fun _ => True) [] ∧ kX U ∧ kT (va_A [] sz) U)) (va_Qv (fun (_ : Unit) => True) (fun _ t => va_P (dC, dI) vwCl [] t.heap ∧ va_D (va_A [] sz) []) (va_A [] sz)) (vx_X (fun (_ : Unit) => True) (fun (E : String) (_ : Unit) (_ : State) => E = "java/util/NoSuchElementException") (va_A [] sz)) 1 6 (va_A [] sz) := by
  refine vx_ofW (cc := cX10_mustBePort) (maxL := 1) (ret := none) (by decide) rfl ?_
  intro p e s m args0 below meth c s₁ B hml hexT hv
  obtain ⟨hargs, hsz, hP, hE, hD0, hXs, hT⟩ := hv
  have hx := B.exec
  have hb := B.bytes
  have hr := B.returns
  have hts := atoms_spec (ws := wsX10_mustBePort) B.pre
  have hown : s.vm.findClass RX10 = some m.cls := findClass_of_methodNamed B.named
  have hlocks := B.notSynchronized
  have hK := hE.1
  subst hsz
  have hD := hD0.self (sz := s.heap.size)
  generalize hAe : va_A [] s.heap.size = A at hD hT ⊢
  have hA : ∀ q : Nat, s.heap.size ≤ q → A q := fun q h => by rw [← hAe]; exact Or.inr h
  have hS : va_S A s.heap s.heap [] := va_S.rf
  have hP : va_P (dC, dI) vwCl [] s.heap := hP
  have hl := lv_entry ([.int p0]) (n := 1) (Nat.le_of_ble_eq_true rfl)
  have hla : entryFrame m args0 1 = entryFrame m ([.int p0] : List Value).toArray 1 := by rw [hargs]
  rw [hla, lg_entry_eq]
  generalize (lg_sl ([.int p0]) ++ List.replicate (1 - (lg_sl ([.int p0])).length) Slot.unset).toArray = ls at hl ⊢
  have hl : lv_has ls 1 [(0, .int p0)] := hl
  refine lv_iload_n hx hb dX10_mustBePort_0 rfl (lv_at hl 0 rfl) ?_
  have hPc := hP.sub (ws' := []) [] rfl
  have hDc := hD.sub (ws' := []) [] (by decide) rfl
  have hFc := va_free (wc := []) hD hS hA [] rfl
  refine va_calli (va_runS (As := [.int p0]) (rest := []) ⟨hx, hb, hml, hown, hts⟩ (k10_isPort l dC dI kB kI kJ kZ kC kS s.heap.size p0) (va_cwS 1 hts gX10_mustBePort_X10_isPort rfl rfl rfl (by decide +kernel) ⟨Nat.le_of_ble_eq_true rfl, Nat.le_of_ble_eq_true rfl⟩) ⟨fun a U g mk q => by obtain ⟨q0, q1, qP, qE, qD⟩ := q; exact ⟨q0, q1, qP, kE_call qE, qD⟩, fun U hU hW => ⟨rfl, by rw [hU], by rw [hU]; exact hPc, kE_warm hW hE, hDc.weaken (fun _ _ _ _ => trivial)⟩⟩ rfl rfl hl.1 rfl (lv_room (Nat.le_of_ble_eq_true rfl)) dX10_mustBePort_1 ⟨Nat.le_of_ble_eq_true rfl, Nat.le_of_ble_eq_true rfl⟩) hS (fun q _ h => hFc q h) hFc (fun r1 u t H1 locs ht hvm w2 hB hz1 hk1 hS => ?_)
  obtain ⟨hP1, hD1⟩ := hB
  rw [ht] at hP1
  try dsimp only at w2
  obtain ⟨hP, hD⟩ := va_join (wr := []) (w1 := []) hP hD [] [] rfl rfl (by decide) (by decide) hk1 hFc hP1 hD1
  generalize H1 = H at hP hS ⊢
  have hP : va_P (dC, dI) vwCl [] H := hP
  have hD : va_D A [] := hD
  refine W.widen (k := 0) (n := 0) (Nat.le_of_ble_eq_true rfl) (Nat.le_of_ble_eq_true rfl) ?_
  refine lv_if_ne (tgt := 18) hx hb dX10_mustBePort_4 (by decide) (fun c3 => ?_) (fun c3 => ?_)
  · have hP9 := hP.sub (ws' := []) [] rfl
    have hD9 := hD.sub (ws' := []) [] (by decide) rfl
    refine W.widen (k := 1) (n := 6) (Nat.le_of_ble_eq_true rfl) (Nat.le_of_ble_eq_true rfl) ?_
    refine vx_ret ?_
    exact W.vret hx hb hr (fun t ht hW => ⟨⟨(), rfl, trivial, by rw [ht]; exact hP9, hD9⟩, hS.F ht⟩) hS.2.2 dX10_mustBePort_18
  · obtain ⟨sa4, hstr⟩ := hXs.2.2.2.2.2.2.2.2.2.2.2.2.2.2.1
    exact vx_throwSXW (names := ["java/lang/RuntimeException", "java/lang/Exception"]) hx hb hst (ix := 13) (rx := kNse) (by decide +kernel) (by decide +kernel) (by decide +kernel) (by decide +kernel) hown (by decide +kernel) (by decide +kernel) (hts (.classLink RX10 195 "java/util/NoSuchElementException") (List.mem_of_getElem? (i := 1) (by decide +kernel))) (hts (.initialized "java/util/NoSuchElementException") (List.mem_of_getElem? (i := 2) (by decide +kernel))) hstr (vx_hat (L := vx_atSX RX10 199 "java/util/NoSuchElementException" 13 kNse ["java/lang/RuntimeException", "java/lang/Exception"]) (B := [.castable "java/util/NoSuchElementException" "java/util/NoSuchElementException", .declares ⟨"java/lang/RuntimeException", "<init>", "(Ljava/lang/String;)V"⟩, .declares ⟨"java/lang/Exception", "<init>", "(Ljava/lang/String;)V"⟩, .declares ⟨"java/lang/Throwable", "<init>", "(Ljava/lang/String;)V"⟩]) (fun w hw => hts w ((by decide +kernel : ∀ w ∈ (vx_atSX RX10 199 "java/util/NoSuchElementException" 13 kNse ["java/lang/RuntimeException", "java/lang/Exception"]).filter goodWord, w ∈ wsX10_mustBePort) w hw)) (by decide +kernel) (vx_c (va_Nw.use rfl hXs.1) (vx_c (va_Nw.use rfl hXs.2.2.1) (vx_c (va_Nw.use rfl hXs.2.2.2.1) (vx_c (va_Nw.use rfl hXs.2.2.2.2.1) (vx_n)))))) (by decide +kernel) hT.1 hT.2 hS (by rw [hml]; exact hl.1) dX10_mustBePort_7 dX10_mustBePort_10 dX10_mustBePort_11 dX10_mustBePort_14 dX10_mustBePort_17 (fun x h9 => (hexT x h9).elim) (Nat.le_of_ble_eq_true rfl) (Nat.le_of_ble_eq_true rfl) (Nat.le_of_ble_eq_true rfl) (Nat.le_of_ble_eq_true rfl) hlocks (fun t9 _ h8 h9 => ⟨(), trivial, rfl, Nat.le_trans hS.1 h8, fun q h1 h2 => (h9 q (Nat.lt_of_lt_of_le h1 hS.1)).trans (hS.2.1 q h1 h2)⟩) hS.2.2 (Nat.le_of_ble_eq_true rfl) (Nat.le_of_ble_eq_true rfl)
def rm_k10_mustBeHops : Room := { frames := 6, cells := 1, slots := 6, locals := 82 }
set_option maxHeartbeats 4000000 in
set_option maxRecDepth 100000 in
theorem k10_mustBeHops (l : Launch) (hst : l.stackTraces = false) (dC : Nat → ClassId) (dI : Nat → Nat → Nat) (kB kI kJ kZ kC kS : ClassId) (sz : Nat) (p0 : Int32) : vx_Met l yX10_mustBeHops wsX10_mustBeHops rm_k10_mustBeHops (va_Pc [.int p0] (fun U => U.heap.size = sz ∧ va_P (dC, dI) vwCl [] U.heap ∧ kE dC dI kB kI kJ kZ kC kS U ∧ va_D (fun _ => True) [] ∧ kX U ∧ kT (va_A [] sz) U)) (va_Qv (fun (_ : Unit) => True) (fun _ t => va_P (dC, dI) vwCl [] t.heap ∧ va_D (va_A [] sz) []) (va_A [] sz)) (vx_X (fun (_ : Unit) => True) (fun (E : String) (_ : Unit) (_ : State) => E = "java/util/NoSuchElementException") (va_A [] sz)) 1 6 (va_A [] sz) := by
  refine vx_ofW (cc := cX10_mustBeHops) (maxL := 1) (ret := none) (by decide) rfl ?_
  intro p e s m args0 below meth c s₁ B hml hexT hv
  obtain ⟨hargs, hsz, hP, hE, hD0, hXs, hT⟩ := hv
  have hx := B.exec
  have hb := B.bytes
  have hr := B.returns
  have hts := atoms_spec (ws := wsX10_mustBeHops) B.pre
  have hown : s.vm.findClass RX10 = some m.cls := findClass_of_methodNamed B.named
  have hlocks := B.notSynchronized
  have hK := hE.1
  subst hsz
  have hD := hD0.self (sz := s.heap.size)
  generalize hAe : va_A [] s.heap.size = A at hD hT ⊢
  have hA : ∀ q : Nat, s.heap.size ≤ q → A q := fun q h => by rw [← hAe]; exact Or.inr h
  have hS : va_S A s.heap s.heap [] := va_S.rf
  have hP : va_P (dC, dI) vwCl [] s.heap := hP
  have hl := lv_entry ([.int p0]) (n := 1) (Nat.le_of_ble_eq_true rfl)
  have hla : entryFrame m args0 1 = entryFrame m ([.int p0] : List Value).toArray 1 := by rw [hargs]
  rw [hla, lg_entry_eq]
  generalize (lg_sl ([.int p0]) ++ List.replicate (1 - (lg_sl ([.int p0])).length) Slot.unset).toArray = ls at hl ⊢
  have hl : lv_has ls 1 [(0, .int p0)] := hl
  refine lv_iload_n hx hb dX10_mustBeHops_0 rfl (lv_at hl 0 rfl) ?_
  have hPc := hP.sub (ws' := []) [] rfl
  have hDc := hD.sub (ws' := []) [] (by decide) rfl
  have hFc := va_free (wc := []) hD hS hA [] rfl
  refine va_calli (va_runS (As := [.int p0]) (rest := []) ⟨hx, hb, hml, hown, hts⟩ (k10_isHops l dC dI kB kI kJ kZ kC kS s.heap.size p0) (va_cwS 1 hts gX10_mustBeHops_X10_isHops rfl rfl rfl (by decide +kernel) ⟨Nat.le_of_ble_eq_true rfl, Nat.le_of_ble_eq_true rfl⟩) ⟨fun a U g mk q => by obtain ⟨q0, q1, qP, qE, qD⟩ := q; exact ⟨q0, q1, qP, kE_call qE, qD⟩, fun U hU hW => ⟨rfl, by rw [hU], by rw [hU]; exact hPc, kE_warm hW hE, hDc.weaken (fun _ _ _ _ => trivial)⟩⟩ rfl rfl hl.1 rfl (lv_room (Nat.le_of_ble_eq_true rfl)) dX10_mustBeHops_1 ⟨Nat.le_of_ble_eq_true rfl, Nat.le_of_ble_eq_true rfl⟩) hS (fun q _ h => hFc q h) hFc (fun r1 u t H1 locs ht hvm w2 hB hz1 hk1 hS => ?_)
  obtain ⟨hP1, hD1⟩ := hB
  rw [ht] at hP1
  try dsimp only at w2
  obtain ⟨hP, hD⟩ := va_join (wr := []) (w1 := []) hP hD [] [] rfl rfl (by decide) (by decide) hk1 hFc hP1 hD1
  generalize H1 = H at hP hS ⊢
  have hP : va_P (dC, dI) vwCl [] H := hP
  have hD : va_D A [] := hD
  refine W.widen (k := 0) (n := 0) (Nat.le_of_ble_eq_true rfl) (Nat.le_of_ble_eq_true rfl) ?_
  refine lv_if_ne (tgt := 18) hx hb dX10_mustBeHops_4 (by decide) (fun c3 => ?_) (fun c3 => ?_)
  · have hP9 := hP.sub (ws' := []) [] rfl
    have hD9 := hD.sub (ws' := []) [] (by decide) rfl
    refine W.widen (k := 1) (n := 6) (Nat.le_of_ble_eq_true rfl) (Nat.le_of_ble_eq_true rfl) ?_
    refine vx_ret ?_
    exact W.vret hx hb hr (fun t ht hW => ⟨⟨(), rfl, trivial, by rw [ht]; exact hP9, hD9⟩, hS.F ht⟩) hS.2.2 dX10_mustBeHops_18
  · obtain ⟨sa4, hstr⟩ := hXs.2.2.2.2.2.2.2.2.2.2.2.2.2.2.2.1
    exact vx_throwSXW (names := ["java/lang/RuntimeException", "java/lang/Exception"]) hx hb hst (ix := 13) (rx := kNse) (by decide +kernel) (by decide +kernel) (by decide +kernel) (by decide +kernel) hown (by decide +kernel) (by decide +kernel) (hts (.classLink RX10 195 "java/util/NoSuchElementException") (List.mem_of_getElem? (i := 1) (by decide +kernel))) (hts (.initialized "java/util/NoSuchElementException") (List.mem_of_getElem? (i := 2) (by decide +kernel))) hstr (vx_hat (L := vx_atSX RX10 199 "java/util/NoSuchElementException" 13 kNse ["java/lang/RuntimeException", "java/lang/Exception"]) (B := [.castable "java/util/NoSuchElementException" "java/util/NoSuchElementException", .declares ⟨"java/lang/RuntimeException", "<init>", "(Ljava/lang/String;)V"⟩, .declares ⟨"java/lang/Exception", "<init>", "(Ljava/lang/String;)V"⟩, .declares ⟨"java/lang/Throwable", "<init>", "(Ljava/lang/String;)V"⟩]) (fun w hw => hts w ((by decide +kernel : ∀ w ∈ (vx_atSX RX10 199 "java/util/NoSuchElementException" 13 kNse ["java/lang/RuntimeException", "java/lang/Exception"]).filter goodWord, w ∈ wsX10_mustBeHops) w hw)) (by decide +kernel) (vx_c (va_Nw.use rfl hXs.1) (vx_c (va_Nw.use rfl hXs.2.2.1) (vx_c (va_Nw.use rfl hXs.2.2.2.1) (vx_c (va_Nw.use rfl hXs.2.2.2.2.1) (vx_n)))))) (by decide +kernel) hT.1 hT.2 hS (by rw [hml]; exact hl.1) dX10_mustBeHops_7 dX10_mustBeHops_10 dX10_mustBeHops_11 dX10_mustBeHops_14 dX10_mustBeHops_17 (fun x h9 => (hexT x h9).elim) (Nat.le_of_ble_eq_true rfl) (Nat.le_of_ble_eq_true rfl) (Nat.le_of_ble_eq_true rfl) (Nat.le_of_ble_eq_true rfl) hlocks (fun t9 _ h8 h9 => ⟨(), trivial, rfl, Nat.le_trans hS.1 h8, fun q h1 h2 => (h9 q (Nat.lt_of_lt_of_le h1 hS.1)).trans (hS.2.1 q h1 h2)⟩) hS.2.2 (Nat.le_of_ble_eq_true rfl) (Nat.le_of_ble_eq_true rfl)
def rm_k10_mustBeWhat : Room := { frames := 6, cells := 1, slots := 6, locals := 82 }
set_option maxHeartbeats 4000000 in
set_option maxRecDepth 100000 in
theorem k10_mustBeWhat (l : Launch) (hst : l.stackTraces = false) (dC : Nat → ClassId) (dI : Nat → Nat → Nat) (kB kI kJ kZ kC kS : ClassId) (sz : Nat) (p0 : Int32) (p1 : Int32) : vx_Met l yX10_mustBeWhat wsX10_mustBeWhat rm_k10_mustBeWhat (va_Pc [.int p0, .int p1] (fun U => U.heap.size = sz ∧ va_P (dC, dI) vwCl [] U.heap ∧ kE dC dI kB kI kJ kZ kC kS U ∧ va_D (fun _ => True) [] ∧ kX U ∧ kT (va_A [] sz) U)) (va_Qv (fun (_ : Unit) => True) (fun _ t => va_P (dC, dI) vwCl [] t.heap ∧ va_D (va_A [] sz) []) (va_A [] sz)) (vx_X (fun (_ : Unit) => True) (fun (E : String) (_ : Unit) (_ : State) => E = "java/util/NoSuchElementException") (va_A [] sz)) 1 6 (va_A [] sz) := by
  refine vx_ofW (cc := cX10_mustBeWhat) (maxL := 2) (ret := none) (by decide) rfl ?_
  intro p e s m args0 below meth c s₁ B hml hexT hv
  obtain ⟨hargs, hsz, hP, hE, hD0, hXs, hT⟩ := hv
  have hx := B.exec
  have hb := B.bytes
  have hr := B.returns
  have hts := atoms_spec (ws := wsX10_mustBeWhat) B.pre
  have hown : s.vm.findClass RX10 = some m.cls := findClass_of_methodNamed B.named
  have hlocks := B.notSynchronized
  have hK := hE.1
  subst hsz
  have hD := hD0.self (sz := s.heap.size)
  generalize hAe : va_A [] s.heap.size = A at hD hT ⊢
  have hA : ∀ q : Nat, s.heap.size ≤ q → A q := fun q h => by rw [← hAe]; exact Or.inr h
  have hS : va_S A s.heap s.heap [] := va_S.rf
  have hP : va_P (dC, dI) vwCl [] s.heap := hP
  have hl := lv_entry ([.int p0, .int p1]) (n := 2) (Nat.le_of_ble_eq_true rfl)
  have hla : entryFrame m args0 2 = entryFrame m ([.int p0, .int p1] : List Value).toArray 2 := by rw [hargs]
  rw [hla, lg_entry_eq]
  generalize (lg_sl ([.int p0, .int p1]) ++ List.replicate (2 - (lg_sl ([.int p0, .int p1])).length) Slot.unset).toArray = ls at hl ⊢
  have hl : lv_has ls 2 [(0, .int p0), (1, .int p1)] := hl
  refine lv_iload_n hx hb dX10_mustBeWhat_0 rfl (lv_at hl 0 rfl) ?_
  refine lv_if_lt (tgt := 9) hx hb dX10_mustBeWhat_1 (by decide) (fun c1 => ?_) (fun c1 => ?_)
  · obtain ⟨sa2, hstr⟩ := hXs.2.2.2.2.2.2.2.2.2.2.2.2.2.2.2.2.1
    exact vx_throwSXW (names := ["java/lang/RuntimeException", "java/lang/Exception"]) hx hb hst (ix := 13) (rx := kNse) (by decide +kernel) (by decide +kernel) (by decide +kernel) (by decide +kernel) hown (by decide +kernel) (by decide +kernel) (hts (.classLink RX10 195 "java/util/NoSuchElementException") (List.mem_of_getElem? (i := 1) (by decide +kernel))) (hts (.initialized "java/util/NoSuchElementException") (List.mem_of_getElem? (i := 2) (by decide +kernel))) hstr (vx_hat (L := vx_atSX RX10 199 "java/util/NoSuchElementException" 13 kNse ["java/lang/RuntimeException", "java/lang/Exception"]) (B := [.castable "java/util/NoSuchElementException" "java/util/NoSuchElementException", .declares ⟨"java/lang/RuntimeException", "<init>", "(Ljava/lang/String;)V"⟩, .declares ⟨"java/lang/Exception", "<init>", "(Ljava/lang/String;)V"⟩, .declares ⟨"java/lang/Throwable", "<init>", "(Ljava/lang/String;)V"⟩]) (fun w hw => hts w ((by decide +kernel : ∀ w ∈ (vx_atSX RX10 199 "java/util/NoSuchElementException" 13 kNse ["java/lang/RuntimeException", "java/lang/Exception"]).filter goodWord, w ∈ wsX10_mustBeWhat) w hw)) (by decide +kernel) (vx_c (va_Nw.use rfl hXs.1) (vx_c (va_Nw.use rfl hXs.2.2.1) (vx_c (va_Nw.use rfl hXs.2.2.2.1) (vx_c (va_Nw.use rfl hXs.2.2.2.2.1) (vx_n)))))) (by decide +kernel) hT.1 hT.2 hS (by rw [hml]; exact hl.1) dX10_mustBeWhat_9 dX10_mustBeWhat_12 dX10_mustBeWhat_13 dX10_mustBeWhat_16 dX10_mustBeWhat_19 (fun x h9 => (hexT x h9).elim) (Nat.le_of_ble_eq_true rfl) (Nat.le_of_ble_eq_true rfl) (Nat.le_of_ble_eq_true rfl) (Nat.le_of_ble_eq_true rfl) hlocks (fun t9 _ h8 h9 => ⟨(), trivial, rfl, Nat.le_trans hS.1 h8, fun q h1 h2 => (h9 q (Nat.lt_of_lt_of_le h1 hS.1)).trans (hS.2.1 q h1 h2)⟩) hS.2.2 (Nat.le_of_ble_eq_true rfl) (Nat.le_of_ble_eq_true rfl)
  · refine lv_iload_n hx hb dX10_mustBeWhat_4 rfl (lv_at hl 0 rfl) ?_
    refine lv_iload_n hx hb dX10_mustBeWhat_5 rfl (lv_at hl 1 rfl) ?_
    refine lv_icmp_le (tgt := 20) hx hb dX10_mustBeWhat_6 (by decide) (fun c3 => ?_) (fun c3 => ?_)
    · have hP9 := hP.sub (ws' := []) [] rfl
      have hD9 := hD.sub (ws' := []) [] (by decide) rfl
      refine W.widen (k := 1) (n := 6) (Nat.le_of_ble_eq_true rfl) (Nat.le_of_ble_eq_true rfl) ?_
      refine vx_ret ?_
      exact W.vret hx hb hr (fun t ht hW => ⟨⟨(), rfl, trivial, by rw [ht]; exact hP9, hD9⟩, hS.F ht⟩) hS.2.2 dX10_mustBeWhat_20
    · obtain ⟨sa4, hstr⟩ := hXs.2.2.2.2.2.2.2.2.2.2.2.2.2.2.2.2.1
      exact vx_throwSXW (names := ["java/lang/RuntimeException", "java/lang/Exception"]) hx hb hst (ix := 13) (rx := kNse) (by decide +kernel) (by decide +kernel) (by decide +kernel) (by decide +kernel) hown (by decide +kernel) (by decide +kernel) (hts (.classLink RX10 195 "java/util/NoSuchElementException") (List.mem_of_getElem? (i := 1) (by decide +kernel))) (hts (.initialized "java/util/NoSuchElementException") (List.mem_of_getElem? (i := 2) (by decide +kernel))) hstr (vx_hat (L := vx_atSX RX10 199 "java/util/NoSuchElementException" 13 kNse ["java/lang/RuntimeException", "java/lang/Exception"]) (B := [.castable "java/util/NoSuchElementException" "java/util/NoSuchElementException", .declares ⟨"java/lang/RuntimeException", "<init>", "(Ljava/lang/String;)V"⟩, .declares ⟨"java/lang/Exception", "<init>", "(Ljava/lang/String;)V"⟩, .declares ⟨"java/lang/Throwable", "<init>", "(Ljava/lang/String;)V"⟩]) (fun w hw => hts w ((by decide +kernel : ∀ w ∈ (vx_atSX RX10 199 "java/util/NoSuchElementException" 13 kNse ["java/lang/RuntimeException", "java/lang/Exception"]).filter goodWord, w ∈ wsX10_mustBeWhat) w hw)) (by decide +kernel) (vx_c (va_Nw.use rfl hXs.1) (vx_c (va_Nw.use rfl hXs.2.2.1) (vx_c (va_Nw.use rfl hXs.2.2.2.1) (vx_c (va_Nw.use rfl hXs.2.2.2.2.1) (vx_n)))))) (by decide +kernel) hT.1 hT.2 hS (by rw [hml]; exact hl.1) dX10_mustBeWhat_9 dX10_mustBeWhat_12 dX10_mustBeWhat_13 dX10_mustBeWhat_16 dX10_mustBeWhat_19 (fun x h9 => (hexT x h9).elim) (Nat.le_of_ble_eq_true rfl) (Nat.le_of_ble_eq_true rfl) (Nat.le_of_ble_eq_true rfl) (Nat.le_of_ble_eq_true rfl) hlocks (fun t9 _ h8 h9 => ⟨(), trivial, rfl, Nat.le_trans hS.1 h8, fun q h1 h2 => (h9 q (Nat.lt_of_lt_of_le h1 hS.1)).trans (hS.2.1 q h1 h2)⟩) hS.2.2 (Nat.le_of_ble_eq_true rfl) (Nat.le_of_ble_eq_true rfl)
def rm_k10_mustBeRouter : Room := { frames := 6, cells := 1, slots := 6, locals := 82 }
set_option maxHeartbeats 4000000 in
set_option maxRecDepth 100000 in
theorem k10_mustBeRouter (l : Launch) (hst : l.stackTraces = false) (dC : Nat → ClassId) (dI : Nat → Nat → Nat) (kB kI kJ kZ kC kS : ClassId) (sz : Nat) (h0 : Nat) (xa1 : Nat) (xa3 : Nat) (xa15 : Nat) (xa27 : Nat) (xa28 : Nat) (xa33 : Nat) (xa38 : Nat) (xa41 : Nat) (xa45 : Nat) (xa46 : Nat) (xa47 : Nat) (xa52 : Nat) (xa54 : Nat) (xa55 : Nat) (xa60 : Nat) (xa62 : Nat) (xa67 : Nat) (xa4 : Nat) (xa5 : Nat) (xa6 : Nat) (xa7 : Nat) (xa8 : Nat) (xa9 : Nat) (xa10 : Nat) (xa11 : Nat) (xa12 : Nat) (xa13 : Nat) (xa14 : Nat) (p0 : Int32) : vx_Met l yX10_mustBeRouter wsX10_mustBeRouter rm_k10_mustBeRouter (va_Pc [.ref h0, .int p0] (fun U => U.heap.size = sz ∧ va_P (dC, dI) vwCl [(h0, .inr (10, [.ref xa1, .ref xa3, .ref xa15, .ref xa27, .ref xa28, .ref xa33, .ref xa38, .ref xa41, .ref xa45, .ref xa46, .ref xa47, .ref xa52, .ref xa54, .int 0, .ref xa55, .ref xa60, .ref xa62, .ref xa67, .int (-1)])), (xa3, .inr (2, [.ref xa4, .ref xa5, .ref xa6, .ref xa7, .ref xa8, .ref xa9, .ref xa10, .int 0, .int 0, .int 0, .int 5, .ref xa11, .ref xa12, .ref xa13, .ref xa14]))] U.heap ∧ kE dC dI kB kI kJ kZ kC kS U ∧ va_D (fun _ => True) [(h0, .inr (10, [.ref xa1, .ref xa3, .ref xa15, .ref xa27, .ref xa28, .ref xa33, .ref xa38, .ref xa41, .ref xa45, .ref xa46, .ref xa47, .ref xa52, .ref xa54, .int 0, .ref xa55, .ref xa60, .ref xa62, .ref xa67, .int (-1)])), (xa3, .inr (2, [.ref xa4, .ref xa5, .ref xa6, .ref xa7, .ref xa8, .ref xa9, .ref xa10, .int 0, .int 0, .int 0, .int 5, .ref xa11, .ref xa12, .ref xa13, .ref xa14]))] ∧ kX U ∧ kT (va_A [(h0, .inr (10, [.ref xa1, .ref xa3, .ref xa15, .ref xa27, .ref xa28, .ref xa33, .ref xa38, .ref xa41, .ref xa45, .ref xa46, .ref xa47, .ref xa52, .ref xa54, .int 0, .ref xa55, .ref xa60, .ref xa62, .ref xa67, .int (-1)])), (xa3, .inr (2, [.ref xa4, .ref xa5, .ref xa6, .ref xa7, .ref xa8, .ref xa9, .ref xa10, .int 0, .int 0, .int 0, .int 5, .ref xa11, .ref xa12, .ref xa13, .ref xa14]))] sz) U)) (va_Qv (fun (_ : Unit) => False) (fun _ t => va_P (dC, dI) vwCl [] t.heap ∧ va_D (va_A [(h0, .inr (10, [.ref xa1, .ref xa3, .ref xa15, .ref xa27, .ref xa28, .ref xa33, .ref xa38, .ref xa41, .ref xa45, .ref xa46, .ref xa47, .ref xa52, .ref xa54, .int 0, .ref xa55, .ref xa60, .ref xa62, .ref xa67, .int (-1)])), (xa3, .inr (2, [.ref xa4, .ref xa5, .ref xa6, .ref xa7, .ref xa8, .ref xa9, .ref xa10, .int 0, .int 0, .int 0, .int 5, .ref xa11, .ref xa12, .ref xa13, .ref xa14]))] sz) []) (va_A [(h0, .inr (10, [.ref xa1, .ref xa3, .ref xa15, .ref xa27, .ref xa28, .ref xa33, .ref xa38, .ref xa41, .ref xa45, .ref xa46, .ref xa47, .ref xa52, .ref xa54, .int 0, .ref xa55, .ref xa60, .ref xa62, .ref xa67, .int (-1)])), (xa3, .inr (2, [.ref xa4, .ref xa5, .ref xa6, .ref xa7, .ref xa8, .ref xa9, .ref xa10, .int 0, .int 0, .int 0, .int 5, .ref xa11, .ref xa12, .ref xa13, .ref xa14]))] sz)) (vx_X (fun (_ : Unit) => True) (fun (E : String) (_ : Unit) (_ : State) => E = "java/util/NoSuchElementException") (va_A [(h0, .inr (10, [.ref xa1, .ref xa3, .ref xa15, .ref xa27, .ref xa28, .ref xa33, .ref xa38, .ref xa41, .ref xa45, .ref xa46, .ref xa47, .ref xa52, .ref xa54, .int 0, .ref xa55, .ref xa60, .ref xa62, .ref xa67, .int (-1)])), (xa3, .inr (2, [.ref xa4, .ref xa5, .ref xa6, .ref xa7, .ref xa8, .ref xa9, .ref xa10, .int 0, .int 0, .int 0, .int 5, .ref xa11, .ref xa12, .ref xa13, .ref xa14]))] sz)) 1 6 (va_A [(h0, .inr (10, [.ref xa1, .ref xa3, .ref xa15, .ref xa27, .ref xa28, .ref xa33, .ref xa38, .ref xa41, .ref xa45, .ref xa46, .ref xa47, .ref xa52, .ref xa54, .int 0, .ref xa55, .ref xa60, .ref xa62, .ref xa67, .int (-1)])), (xa3, .inr (2, [.ref xa4, .ref xa5, .ref xa6, .ref xa7, .ref xa8, .ref xa9, .ref xa10, .int 0, .int 0, .int 0, .int 5, .ref xa11, .ref xa12, .ref xa13, .ref xa14]))] sz) := by
  refine vx_ofW (cc := cX10_mustBeRouter) (maxL := 2) (ret := none) (by decide) rfl ?_
  intro p e s m args0 below meth c s₁ B hml hexT hv
  obtain ⟨hargs, hsz, hP, hE, hD0, hXs, hT⟩ := hv
  have hx := B.exec
  have hb := B.bytes
  have hr := B.returns
  have hts := atoms_spec (ws := wsX10_mustBeRouter) B.pre
  have hown : s.vm.findClass RX10 = some m.cls := findClass_of_methodNamed B.named
  have hlocks := B.notSynchronized
  have hK := hE.1
  have hin10 : ∀ w ∈ wsX100, w ∈ wsX10_mustBeRouter := fun _ h9 => List.mem_cons_of_mem _ (List.mem_append_left _ (List.mem_append_left _ (List.mem_append_right _ h9)))
  have hin2 : ∀ w ∈ wsX20, w ∈ wsX10_mustBeRouter := fun _ h9 => List.mem_cons_of_mem _ (List.mem_append_left _ (List.mem_append_right _ h9))
  subst hsz
  have hD := hD0.self (sz := s.heap.size)
  generalize hAe : va_A [(h0, .inr (10, [.ref xa1, .ref xa3, .ref xa15, .ref xa27, .ref xa28, .ref xa33, .ref xa38, .ref xa41, .ref xa45, .ref xa46, .ref xa47, .ref xa52, .ref xa54, .int 0, .ref xa55, .ref xa60, .ref xa62, .ref xa67, .int (-1)])), (xa3, .inr (2, [.ref xa4, .ref xa5, .ref xa6, .ref xa7, .ref xa8, .ref xa9, .ref xa10, .int 0, .int 0, .int 0, .int 5, .ref xa11, .ref xa12, .ref xa13, .ref xa14]))] s.heap.size = A at hD hT ⊢
  have hA : ∀ q : Nat, s.heap.size ≤ q → A q := fun q h => by rw [← hAe]; exact Or.inr h
  have hS : va_S A s.heap s.heap [] := va_S.rf
  have hP : va_P (dC, dI) vwCl [(h0, .inr (10, [.ref xa1, .ref xa3, .ref xa15, .ref xa27, .ref xa28, .ref xa33, .ref xa38, .ref xa41, .ref xa45, .ref xa46, .ref xa47, .ref xa52, .ref xa54, .int 0, .ref xa55, .ref xa60, .ref xa62, .ref xa67, .int (-1)])), (xa3, .inr (2, [.ref xa4, .ref xa5, .ref xa6, .ref xa7, .ref xa8, .ref xa9, .ref xa10, .int 0, .int 0, .int 0, .int 5, .ref xa11, .ref xa12, .ref xa13, .ref xa14]))] s.heap := hP
  have hl := lv_entry ([.ref h0, .int p0]) (n := 2) (Nat.le_of_ble_eq_true rfl)
  have hla : entryFrame m args0 2 = entryFrame m ([.ref h0, .int p0] : List Value).toArray 2 := by rw [hargs]
  rw [hla, lg_entry_eq]
  generalize (lg_sl ([.ref h0, .int p0]) ++ List.replicate (2 - (lg_sl ([.ref h0, .int p0])).length) Slot.unset).toArray = ls at hl ⊢
  have hl : lv_has ls 2 [(0, .ref h0), (1, .int p0)] := hl
  refine lv_aload_n hx hb dX10_mustBeRouter_0 rfl (lv_at hl 0 rfl) ?_
  refine va_get (D := (dC, dI)) (ci := 10) (v := .ref xa3) (C := RX10) (T := TX10) (N := 19) hx hb hts hin10 hown hK hP 0 rfl rfl 1 (by decide) (hts (.fieldLink RX10 19 "PathProber" "told" "LPathProber$Net;") (List.mem_of_getElem? (i := 3) (by decide +kernel))) (fun _ h9 => h9) rfl dX10_mustBeRouter_1 ?_
  refine lv_iload_n hx hb dX10_mustBeRouter_4 rfl (lv_at hl 1 rfl) ?_
  have hPc := hP.sub (ws' := [(xa3, .inr (2, [.ref xa4, .ref xa5, .ref xa6, .ref xa7, .ref xa8, .ref xa9, .ref xa10, .int 0, .int 0, .int 0, .int 5, .ref xa11, .ref xa12, .ref xa13, .ref xa14]))]) [1] rfl
  have hDc := hD.sub (ws' := [(xa3, .inr (2, [.ref xa4, .ref xa5, .ref xa6, .ref xa7, .ref xa8, .ref xa9, .ref xa10, .int 0, .int 0, .int 0, .int 5, .ref xa11, .ref xa12, .ref xa13, .ref xa14]))]) [1] (by decide) rfl
  have hFc := va_free (wc := [(xa3, .inr (2, [.ref xa4, .ref xa5, .ref xa6, .ref xa7, .ref xa8, .ref xa9, .ref xa10, .int 0, .int 0, .int 0, .int 5, .ref xa11, .ref xa12, .ref xa13, .ref xa14]))]) hD hS hA [1] rfl
  refine va_calli (va_runV (As := [.int p0]) (rest := []) ⟨hx, hb, hml, hown, hts⟩ (k2_hasRouter l dC dI kB kI kJ kZ kC kS s.heap.size xa3 xa4 xa5 xa6 xa7 xa8 xa9 xa10 xa11 xa12 xa13 xa14 p0) (cwV 1 hts gX10_mustBeRouter_X2_hasRouter rfl rfl rfl (by decide +kernel) ⟨Nat.le_of_ble_eq_true rfl, Nat.le_of_ble_eq_true rfl⟩) ⟨fun a U g mk q => by obtain ⟨q0, q1, qP, qE, qD⟩ := q; exact ⟨q0, q1, qP, kE_call qE, qD⟩, va_recv hK hP (ci := 2) (q0 := 1) rfl rfl, fun U hU hW => ⟨rfl, by rw [hU], by rw [hU]; exact hPc, kE_warm hW hE, hDc.weaken (fun _ _ _ _ => trivial)⟩⟩ rfl rfl hl.1 rfl (lv_room (Nat.le_of_ble_eq_true rfl)) dX10_mustBeRouter_5 ⟨Nat.le_of_ble_eq_true rfl, Nat.le_of_ble_eq_true rfl⟩) hS (fun q _ h => hFc q h) hFc (fun r1 u t H1 locs ht hvm w2 hB hz1 hk1 hS => ?_)
  obtain ⟨hP1, hD1⟩ := hB
  rw [ht] at hP1
  try dsimp only at w2
  obtain ⟨hP, hD⟩ := va_join (wr := [(h0, .inr (10, [.ref xa1, .ref xa3, .ref xa15, .ref xa27, .ref xa28, .ref xa33, .ref xa38, .ref xa41, .ref xa45, .ref xa46, .ref xa47, .ref xa52, .ref xa54, .int 0, .ref xa55, .ref xa60, .ref xa62, .ref xa67, .int (-1)]))]) (w1 := [(xa3, .inr (2, [.ref xa4, .ref xa5, .ref xa6, .ref xa7, .ref xa8, .ref xa9, .ref xa10, .int 0, .int 0, .int 0, .int 5, .ref xa11, .ref xa12, .ref xa13, .ref xa14]))]) hP hD [1] [0] rfl rfl (by decide) (by decide) hk1 hFc hP1 hD1
  generalize H1 = H at hP hS ⊢
  have hP : va_P (dC, dI) vwCl [(h0, .inr (10, [.ref xa1, .ref xa3, .ref xa15, .ref xa27, .ref xa28, .ref xa33, .ref xa38, .ref xa41, .ref xa45, .ref xa46, .ref xa47, .ref xa52, .ref xa54, .int 0, .ref xa55, .ref xa60, .ref xa62, .ref xa67, .int (-1)])), (xa3, .inr (2, [.ref xa4, .ref xa5, .ref xa6, .ref xa7, .ref xa8, .ref xa9, .ref xa10, .int 0, .int 0, .int 0, .int 5, .ref xa11, .ref xa12, .ref xa13, .ref xa14]))] H := hP
  have hD : va_D A [(h0, .inr (10, [.ref xa1, .ref xa3, .ref xa15, .ref xa27, .ref xa28, .ref xa33, .ref xa38, .ref xa41, .ref xa45, .ref xa46, .ref xa47, .ref xa52, .ref xa54, .int 0, .ref xa55, .ref xa60, .ref xa62, .ref xa67, .int (-1)])), (xa3, .inr (2, [.ref xa4, .ref xa5, .ref xa6, .ref xa7, .ref xa8, .ref xa9, .ref xa10, .int 0, .int 0, .int 0, .int 5, .ref xa11, .ref xa12, .ref xa13, .ref xa14]))] := hD
  refine W.widen (k := 0) (n := 0) (Nat.le_of_ble_eq_true rfl) (Nat.le_of_ble_eq_true rfl) ?_
  subst w2
  refine lv_if_ne (tgt := 22) hx hb dX10_mustBeRouter_8 (by decide) (fun c9 => absurd (by decide) c9) (fun _ => ?_)
  obtain ⟨sa3, hstr⟩ := hXs.2.2.2.2.2.2.2.2.2.2.2.2.2.2.2.2.2.1
  exact vx_throwSXW (names := ["java/lang/RuntimeException", "java/lang/Exception"]) hx hb hst (ix := 13) (rx := kNse) (by decide +kernel) (by decide +kernel) (by decide +kernel) (by decide +kernel) hown (by decide +kernel) (by decide +kernel) (hts (.classLink RX10 195 "java/util/NoSuchElementException") (List.mem_of_getElem? (i := 1) (by decide +kernel))) (hts (.initialized "java/util/NoSuchElementException") (List.mem_of_getElem? (i := 2) (by decide +kernel))) hstr (vx_hat (L := vx_atSX RX10 199 "java/util/NoSuchElementException" 13 kNse ["java/lang/RuntimeException", "java/lang/Exception"]) (B := [.castable "java/util/NoSuchElementException" "java/util/NoSuchElementException", .declares ⟨"java/lang/RuntimeException", "<init>", "(Ljava/lang/String;)V"⟩, .declares ⟨"java/lang/Exception", "<init>", "(Ljava/lang/String;)V"⟩, .declares ⟨"java/lang/Throwable", "<init>", "(Ljava/lang/String;)V"⟩]) (fun w hw => hts w ((by decide +kernel : ∀ w ∈ (vx_atSX RX10 199 "java/util/NoSuchElementException" 13 kNse ["java/lang/RuntimeException", "java/lang/Exception"]).filter goodWord, w ∈ wsX10_mustBeRouter) w hw)) (by decide +kernel) (vx_c (va_Nw.use rfl hXs.1) (vx_c (va_Nw.use rfl hXs.2.2.1) (vx_c (va_Nw.use rfl hXs.2.2.2.1) (vx_c (va_Nw.use rfl hXs.2.2.2.2.1) (vx_n)))))) (by decide +kernel) hT.1 hT.2 hS (by rw [hml]; exact hl.1) dX10_mustBeRouter_11 dX10_mustBeRouter_14 dX10_mustBeRouter_15 dX10_mustBeRouter_18 dX10_mustBeRouter_21 (fun x h9 => (hexT x h9).elim) (Nat.le_of_ble_eq_true rfl) (Nat.le_of_ble_eq_true rfl) (Nat.le_of_ble_eq_true rfl) (Nat.le_of_ble_eq_true rfl) hlocks (fun t9 _ h8 h9 => ⟨(), trivial, rfl, Nat.le_trans hS.1 h8, fun q h1 h2 => (h9 q (Nat.lt_of_lt_of_le h1 hS.1)).trans (hS.2.1 q h1 h2)⟩) hS.2.2 (Nat.le_of_ble_eq_true rfl) (Nat.le_of_ble_eq_true rfl)
def rm_k10_mustBeLink : Room := { frames := 6, cells := 1, slots := 6, locals := 82 }
set_option maxHeartbeats 4000000 in
set_option maxRecDepth 100000 in
theorem k10_mustBeLink (l : Launch) (hst : l.stackTraces = false) (dC : Nat → ClassId) (dI : Nat → Nat → Nat) (kB kI kJ kZ kC kS : ClassId) (sz : Nat) (h0 : Nat) (xa1 : Nat) (xa3 : Nat) (xa15 : Nat) (xa27 : Nat) (xa28 : Nat) (xa33 : Nat) (xa38 : Nat) (xa41 : Nat) (xa45 : Nat) (xa46 : Nat) (xa47 : Nat) (xa52 : Nat) (xa54 : Nat) (xa55 : Nat) (xa60 : Nat) (xa62 : Nat) (xa67 : Nat) (xa4 : Nat) (xa5 : Nat) (xa6 : Nat) (xa7 : Nat) (xa8 : Nat) (xa9 : Nat) (xa10 : Nat) (xa11 : Nat) (xa12 : Nat) (xa13 : Nat) (xa14 : Nat) (p0 : Int32) : vx_Met l yX10_mustBeLink wsX10_mustBeLink rm_k10_mustBeLink (va_Pc [.ref h0, .int p0] (fun U => U.heap.size = sz ∧ va_P (dC, dI) vwCl [(h0, .inr (10, [.ref xa1, .ref xa3, .ref xa15, .ref xa27, .ref xa28, .ref xa33, .ref xa38, .ref xa41, .ref xa45, .ref xa46, .ref xa47, .ref xa52, .ref xa54, .int 0, .ref xa55, .ref xa60, .ref xa62, .ref xa67, .int (-1)])), (xa3, .inr (2, [.ref xa4, .ref xa5, .ref xa6, .ref xa7, .ref xa8, .ref xa9, .ref xa10, .int 0, .int 0, .int 0, .int 5, .ref xa11, .ref xa12, .ref xa13, .ref xa14]))] U.heap ∧ kE dC dI kB kI kJ kZ kC kS U ∧ va_D (fun _ => True) [(h0, .inr (10, [.ref xa1, .ref xa3, .ref xa15, .ref xa27, .ref xa28, .ref xa33, .ref xa38, .ref xa41, .ref xa45, .ref xa46, .ref xa47, .ref xa52, .ref xa54, .int 0, .ref xa55, .ref xa60, .ref xa62, .ref xa67, .int (-1)])), (xa3, .inr (2, [.ref xa4, .ref xa5, .ref xa6, .ref xa7, .ref xa8, .ref xa9, .ref xa10, .int 0, .int 0, .int 0, .int 5, .ref xa11, .ref xa12, .ref xa13, .ref xa14]))] ∧ kX U ∧ kT (va_A [(h0, .inr (10, [.ref xa1, .ref xa3, .ref xa15, .ref xa27, .ref xa28, .ref xa33, .ref xa38, .ref xa41, .ref xa45, .ref xa46, .ref xa47, .ref xa52, .ref xa54, .int 0, .ref xa55, .ref xa60, .ref xa62, .ref xa67, .int (-1)])), (xa3, .inr (2, [.ref xa4, .ref xa5, .ref xa6, .ref xa7, .ref xa8, .ref xa9, .ref xa10, .int 0, .int 0, .int 0, .int 5, .ref xa11, .ref xa12, .ref xa13, .ref xa14]))] sz) U)) (va_Qv (fun (_ : Unit) => False) (fun _ t => va_P (dC, dI) vwCl [] t.heap ∧ va_D (va_A [(h0, .inr (10, [.ref xa1, .ref xa3, .ref xa15, .ref xa27, .ref xa28, .ref xa33, .ref xa38, .ref xa41, .ref xa45, .ref xa46, .ref xa47, .ref xa52, .ref xa54, .int 0, .ref xa55, .ref xa60, .ref xa62, .ref xa67, .int (-1)])), (xa3, .inr (2, [.ref xa4, .ref xa5, .ref xa6, .ref xa7, .ref xa8, .ref xa9, .ref xa10, .int 0, .int 0, .int 0, .int 5, .ref xa11, .ref xa12, .ref xa13, .ref xa14]))] sz) []) (va_A [(h0, .inr (10, [.ref xa1, .ref xa3, .ref xa15, .ref xa27, .ref xa28, .ref xa33, .ref xa38, .ref xa41, .ref xa45, .ref xa46, .ref xa47, .ref xa52, .ref xa54, .int 0, .ref xa55, .ref xa60, .ref xa62, .ref xa67, .int (-1)])), (xa3, .inr (2, [.ref xa4, .ref xa5, .ref xa6, .ref xa7, .ref xa8, .ref xa9, .ref xa10, .int 0, .int 0, .int 0, .int 5, .ref xa11, .ref xa12, .ref xa13, .ref xa14]))] sz)) (vx_X (fun (_ : Unit) => True) (fun (E : String) (_ : Unit) (_ : State) => E = "java/util/NoSuchElementException") (va_A [(h0, .inr (10, [.ref xa1, .ref xa3, .ref xa15, .ref xa27, .ref xa28, .ref xa33, .ref xa38, .ref xa41, .ref xa45, .ref xa46, .ref xa47, .ref xa52, .ref xa54, .int 0, .ref xa55, .ref xa60, .ref xa62, .ref xa67, .int (-1)])), (xa3, .inr (2, [.ref xa4, .ref xa5, .ref xa6, .ref xa7, .ref xa8, .ref xa9, .ref xa10, .int 0, .int 0, .int 0, .int 5, .ref xa11, .ref xa12, .ref xa13, .ref xa14]))] sz)) 1 6 (va_A [(h0, .inr (10, [.ref xa1, .ref xa3, .ref xa15, .ref xa27, .ref xa28, .ref xa33, .ref xa38, .ref xa41, .ref xa45, .ref xa46, .ref xa47, .ref xa52, .ref xa54, .int 0, .ref xa55, .ref xa60, .ref xa62, .ref xa67, .int (-1)])), (xa3, .inr (2, [.ref xa4, .ref xa5, .ref xa6, .ref xa7, .ref xa8, .ref xa9, .ref xa10, .int 0, .int 0, .int 0, .int 5, .ref xa11, .ref xa12, .ref xa13, .ref xa14]))] sz) := by
  refine vx_ofW (cc := cX10_mustBeLink) (maxL := 2) (ret := none) (by decide) rfl ?_
  intro p e s m args0 below meth c s₁ B hml hexT hv
  obtain ⟨hargs, hsz, hP, hE, hD0, hXs, hT⟩ := hv
  have hx := B.exec
  have hb := B.bytes
  have hr := B.returns
  have hts := atoms_spec (ws := wsX10_mustBeLink) B.pre
  have hown : s.vm.findClass RX10 = some m.cls := findClass_of_methodNamed B.named
  have hlocks := B.notSynchronized
  have hK := hE.1
  have hin10 : ∀ w ∈ wsX100, w ∈ wsX10_mustBeLink := fun _ h9 => List.mem_cons_of_mem _ (List.mem_append_left _ (List.mem_append_left _ (List.mem_append_right _ h9)))
  have hin2 : ∀ w ∈ wsX20, w ∈ wsX10_mustBeLink := fun _ h9 => List.mem_cons_of_mem _ (List.mem_append_left _ (List.mem_append_right _ h9))
  subst hsz
  have hD := hD0.self (sz := s.heap.size)
  generalize hAe : va_A [(h0, .inr (10, [.ref xa1, .ref xa3, .ref xa15, .ref xa27, .ref xa28, .ref xa33, .ref xa38, .ref xa41, .ref xa45, .ref xa46, .ref xa47, .ref xa52, .ref xa54, .int 0, .ref xa55, .ref xa60, .ref xa62, .ref xa67, .int (-1)])), (xa3, .inr (2, [.ref xa4, .ref xa5, .ref xa6, .ref xa7, .ref xa8, .ref xa9, .ref xa10, .int 0, .int 0, .int 0, .int 5, .ref xa11, .ref xa12, .ref xa13, .ref xa14]))] s.heap.size = A at hD hT ⊢
  have hA : ∀ q : Nat, s.heap.size ≤ q → A q := fun q h => by rw [← hAe]; exact Or.inr h
  have hS : va_S A s.heap s.heap [] := va_S.rf
  have hP : va_P (dC, dI) vwCl [(h0, .inr (10, [.ref xa1, .ref xa3, .ref xa15, .ref xa27, .ref xa28, .ref xa33, .ref xa38, .ref xa41, .ref xa45, .ref xa46, .ref xa47, .ref xa52, .ref xa54, .int 0, .ref xa55, .ref xa60, .ref xa62, .ref xa67, .int (-1)])), (xa3, .inr (2, [.ref xa4, .ref xa5, .ref xa6, .ref xa7, .ref xa8, .ref xa9, .ref xa10, .int 0, .int 0, .int 0, .int 5, .ref xa11, .ref xa12, .ref xa13, .ref xa14]))] s.heap := hP
  have hl := lv_entry ([.ref h0, .int p0]) (n := 2) (Nat.le_of_ble_eq_true rfl)
  have hla : entryFrame m args0 2 = entryFrame m ([.ref h0, .int p0] : List Value).toArray 2 := by rw [hargs]
  rw [hla, lg_entry_eq]
  generalize (lg_sl ([.ref h0, .int p0]) ++ List.replicate (2 - (lg_sl ([.ref h0, .int p0])).length) Slot.unset).toArray = ls at hl ⊢
  have hl : lv_has ls 2 [(0, .ref h0), (1, .int p0)] := hl
  refine lv_aload_n hx hb dX10_mustBeLink_0 rfl (lv_at hl 0 rfl) ?_
  refine va_get (D := (dC, dI)) (ci := 10) (v := .ref xa3) (C := RX10) (T := TX10) (N := 19) hx hb hts hin10 hown hK hP 0 rfl rfl 1 (by decide) (hts (.fieldLink RX10 19 "PathProber" "told" "LPathProber$Net;") (List.mem_of_getElem? (i := 3) (by decide +kernel))) (fun _ h9 => h9) rfl dX10_mustBeLink_1 ?_
  refine lv_iload_n hx hb dX10_mustBeLink_4 rfl (lv_at hl 1 rfl) ?_
  have hPc := hP.sub (ws' := [(xa3, .inr (2, [.ref xa4, .ref xa5, .ref xa6, .ref xa7, .ref xa8, .ref xa9, .ref xa10, .int 0, .int 0, .int 0, .int 5, .ref xa11, .ref xa12, .ref xa13, .ref xa14]))]) [1] rfl
  have hDc := hD.sub (ws' := [(xa3, .inr (2, [.ref xa4, .ref xa5, .ref xa6, .ref xa7, .ref xa8, .ref xa9, .ref xa10, .int 0, .int 0, .int 0, .int 5, .ref xa11, .ref xa12, .ref xa13, .ref xa14]))]) [1] (by decide) rfl
  have hFc := va_free (wc := [(xa3, .inr (2, [.ref xa4, .ref xa5, .ref xa6, .ref xa7, .ref xa8, .ref xa9, .ref xa10, .int 0, .int 0, .int 0, .int 5, .ref xa11, .ref xa12, .ref xa13, .ref xa14]))]) hD hS hA [1] rfl
  refine va_calli (va_runV (As := [.int p0]) (rest := []) ⟨hx, hb, hml, hown, hts⟩ (k2_hasLink l dC dI kB kI kJ kZ kC kS s.heap.size xa3 xa4 xa5 xa6 xa7 xa8 xa9 xa10 xa11 xa12 xa13 xa14 p0) (cwV 1 hts gX10_mustBeLink_X2_hasLink rfl rfl rfl (by decide +kernel) ⟨Nat.le_of_ble_eq_true rfl, Nat.le_of_ble_eq_true rfl⟩) ⟨fun a U g mk q => by obtain ⟨q0, q1, qP, qE, qD⟩ := q; exact ⟨q0, q1, qP, kE_call qE, qD⟩, va_recv hK hP (ci := 2) (q0 := 1) rfl rfl, fun U hU hW => ⟨rfl, by rw [hU], by rw [hU]; exact hPc, kE_warm hW hE, hDc.weaken (fun _ _ _ _ => trivial)⟩⟩ rfl rfl hl.1 rfl (lv_room (Nat.le_of_ble_eq_true rfl)) dX10_mustBeLink_5 ⟨Nat.le_of_ble_eq_true rfl, Nat.le_of_ble_eq_true rfl⟩) hS (fun q _ h => hFc q h) hFc (fun r1 u t H1 locs ht hvm w2 hB hz1 hk1 hS => ?_)
  obtain ⟨hP1, hD1⟩ := hB
  rw [ht] at hP1
  try dsimp only at w2
  obtain ⟨hP, hD⟩ := va_join (wr := [(h0, .inr (10, [.ref xa1, .ref xa3, .ref xa15, .ref xa27, .ref xa28, .ref xa33, .ref xa38, .ref xa41, .ref xa45, .ref xa46, .ref xa47, .ref xa52, .ref xa54, .int 0, .ref xa55, .ref xa60, .ref xa62, .ref xa67, .int (-1)]))]) (w1 := [(xa3, .inr (2, [.ref xa4, .ref xa5, .ref xa6, .ref xa7, .ref xa8, .ref xa9, .ref xa10, .int 0, .int 0, .int 0, .int 5, .ref xa11, .ref xa12, .ref xa13, .ref xa14]))]) hP hD [1] [0] rfl rfl (by decide) (by decide) hk1 hFc hP1 hD1
  generalize H1 = H at hP hS ⊢
  have hP : va_P (dC, dI) vwCl [(h0, .inr (10, [.ref xa1, .ref xa3, .ref xa15, .ref xa27, .ref xa28, .ref xa33, .ref xa38, .ref xa41, .ref xa45, .ref xa46, .ref xa47, .ref xa52, .ref xa54, .int 0, .ref xa55, .ref xa60, .ref xa62, .ref xa67, .int (-1)])), (xa3, .inr (2, [.ref xa4, .ref xa5, .ref xa6, .ref xa7, .ref xa8, .ref xa9, .ref xa10, .int 0, .int 0, .int 0, .int 5, .ref xa11, .ref xa12, .ref xa13, .ref xa14]))] H := hP
  have hD : va_D A [(h0, .inr (10, [.ref xa1, .ref xa3, .ref xa15, .ref xa27, .ref xa28, .ref xa33, .ref xa38, .ref xa41, .ref xa45, .ref xa46, .ref xa47, .ref xa52, .ref xa54, .int 0, .ref xa55, .ref xa60, .ref xa62, .ref xa67, .int (-1)])), (xa3, .inr (2, [.ref xa4, .ref xa5, .ref xa6, .ref xa7, .ref xa8, .ref xa9, .ref xa10, .int 0, .int 0, .int 0, .int 5, .ref xa11, .ref xa12, .ref xa13, .ref xa14]))] := hD
  refine W.widen (k := 0) (n := 0) (Nat.le_of_ble_eq_true rfl) (Nat.le_of_ble_eq_true rfl) ?_
  subst w2
  refine lv_if_ne (tgt := 22) hx hb dX10_mustBeLink_8 (by decide) (fun c9 => absurd (by decide) c9) (fun _ => ?_)
  obtain ⟨sa3, hstr⟩ := hXs.2.2.2.2.2.2.2.2.2.2.2.2.2.2.2.2.2.2.1
  exact vx_throwSXW (names := ["java/lang/RuntimeException", "java/lang/Exception"]) hx hb hst (ix := 13) (rx := kNse) (by decide +kernel) (by decide +kernel) (by decide +kernel) (by decide +kernel) hown (by decide +kernel) (by decide +kernel) (hts (.classLink RX10 195 "java/util/NoSuchElementException") (List.mem_of_getElem? (i := 1) (by decide +kernel))) (hts (.initialized "java/util/NoSuchElementException") (List.mem_of_getElem? (i := 2) (by decide +kernel))) hstr (vx_hat (L := vx_atSX RX10 199 "java/util/NoSuchElementException" 13 kNse ["java/lang/RuntimeException", "java/lang/Exception"]) (B := [.castable "java/util/NoSuchElementException" "java/util/NoSuchElementException", .declares ⟨"java/lang/RuntimeException", "<init>", "(Ljava/lang/String;)V"⟩, .declares ⟨"java/lang/Exception", "<init>", "(Ljava/lang/String;)V"⟩, .declares ⟨"java/lang/Throwable", "<init>", "(Ljava/lang/String;)V"⟩]) (fun w hw => hts w ((by decide +kernel : ∀ w ∈ (vx_atSX RX10 199 "java/util/NoSuchElementException" 13 kNse ["java/lang/RuntimeException", "java/lang/Exception"]).filter goodWord, w ∈ wsX10_mustBeLink) w hw)) (by decide +kernel) (vx_c (va_Nw.use rfl hXs.1) (vx_c (va_Nw.use rfl hXs.2.2.1) (vx_c (va_Nw.use rfl hXs.2.2.2.1) (vx_c (va_Nw.use rfl hXs.2.2.2.2.1) (vx_n)))))) (by decide +kernel) hT.1 hT.2 hS (by rw [hml]; exact hl.1) dX10_mustBeLink_11 dX10_mustBeLink_14 dX10_mustBeLink_15 dX10_mustBeLink_18 dX10_mustBeLink_21 (fun x h9 => (hexT x h9).elim) (Nat.le_of_ble_eq_true rfl) (Nat.le_of_ble_eq_true rfl) (Nat.le_of_ble_eq_true rfl) (Nat.le_of_ble_eq_true rfl) hlocks (fun t9 _ h8 h9 => ⟨(), trivial, rfl, Nat.le_trans hS.1 h8, fun q h1 h2 => (h9 q (Nat.lt_of_lt_of_le h1 hS.1)).trans (hS.2.1 q h1 h2)⟩) hS.2.2 (Nat.le_of_ble_eq_true rfl) (Nat.le_of_ble_eq_true rfl)
def rm_k10_mustBeGoal : Room := { frames := 6, cells := 1, slots := 6, locals := 82 }
set_option maxHeartbeats 4000000 in
set_option maxRecDepth 100000 in
theorem k10_mustBeGoal (l : Launch) (hst : l.stackTraces = false) (dC : Nat → ClassId) (dI : Nat → Nat → Nat) (kB kI kJ kZ kC kS : ClassId) (sz : Nat) (h0 : Nat) (xa1 : Nat) (xa3 : Nat) (xa15 : Nat) (xa27 : Nat) (xa28 : Nat) (xa33 : Nat) (xa38 : Nat) (xa41 : Nat) (xa45 : Nat) (xa46 : Nat) (xa47 : Nat) (xa52 : Nat) (xa54 : Nat) (xa55 : Nat) (xa60 : Nat) (xa62 : Nat) (xa67 : Nat) (xa4 : Nat) (xa5 : Nat) (xa6 : Nat) (xa7 : Nat) (xa8 : Nat) (xa9 : Nat) (xa10 : Nat) (xa11 : Nat) (xa12 : Nat) (xa13 : Nat) (xa14 : Nat) (p0 : Int32) : vx_Met l yX10_mustBeGoal wsX10_mustBeGoal rm_k10_mustBeGoal (va_Pc [.ref h0, .int p0] (fun U => U.heap.size = sz ∧ va_P (dC, dI) vwCl [(h0, .inr (10, [.ref xa1, .ref xa3, .ref xa15, .ref xa27, .ref xa28, .ref xa33, .ref xa38, .ref xa41, .ref xa45, .ref xa46, .ref xa47, .ref xa52, .ref xa54, .int 0, .ref xa55, .ref xa60, .ref xa62, .ref xa67, .int (-1)])), (xa3, .inr (2, [.ref xa4, .ref xa5, .ref xa6, .ref xa7, .ref xa8, .ref xa9, .ref xa10, .int 0, .int 0, .int 0, .int 5, .ref xa11, .ref xa12, .ref xa13, .ref xa14]))] U.heap ∧ kE dC dI kB kI kJ kZ kC kS U ∧ va_D (fun _ => True) [(h0, .inr (10, [.ref xa1, .ref xa3, .ref xa15, .ref xa27, .ref xa28, .ref xa33, .ref xa38, .ref xa41, .ref xa45, .ref xa46, .ref xa47, .ref xa52, .ref xa54, .int 0, .ref xa55, .ref xa60, .ref xa62, .ref xa67, .int (-1)])), (xa3, .inr (2, [.ref xa4, .ref xa5, .ref xa6, .ref xa7, .ref xa8, .ref xa9, .ref xa10, .int 0, .int 0, .int 0, .int 5, .ref xa11, .ref xa12, .ref xa13, .ref xa14]))] ∧ kX U ∧ kT (va_A [(h0, .inr (10, [.ref xa1, .ref xa3, .ref xa15, .ref xa27, .ref xa28, .ref xa33, .ref xa38, .ref xa41, .ref xa45, .ref xa46, .ref xa47, .ref xa52, .ref xa54, .int 0, .ref xa55, .ref xa60, .ref xa62, .ref xa67, .int (-1)])), (xa3, .inr (2, [.ref xa4, .ref xa5, .ref xa6, .ref xa7, .ref xa8, .ref xa9, .ref xa10, .int 0, .int 0, .int 0, .int 5, .ref xa11, .ref xa12, .ref xa13, .ref xa14]))] sz) U)) (va_Qv (fun (_ : Unit) => False) (fun _ t => va_P (dC, dI) vwCl [] t.heap ∧ va_D (va_A [(h0, .inr (10, [.ref xa1, .ref xa3, .ref xa15, .ref xa27, .ref xa28, .ref xa33, .ref xa38, .ref xa41, .ref xa45, .ref xa46, .ref xa47, .ref xa52, .ref xa54, .int 0, .ref xa55, .ref xa60, .ref xa62, .ref xa67, .int (-1)])), (xa3, .inr (2, [.ref xa4, .ref xa5, .ref xa6, .ref xa7, .ref xa8, .ref xa9, .ref xa10, .int 0, .int 0, .int 0, .int 5, .ref xa11, .ref xa12, .ref xa13, .ref xa14]))] sz) []) (va_A [(h0, .inr (10, [.ref xa1, .ref xa3, .ref xa15, .ref xa27, .ref xa28, .ref xa33, .ref xa38, .ref xa41, .ref xa45, .ref xa46, .ref xa47, .ref xa52, .ref xa54, .int 0, .ref xa55, .ref xa60, .ref xa62, .ref xa67, .int (-1)])), (xa3, .inr (2, [.ref xa4, .ref xa5, .ref xa6, .ref xa7, .ref xa8, .ref xa9, .ref xa10, .int 0, .int 0, .int 0, .int 5, .ref xa11, .ref xa12, .ref xa13, .ref xa14]))] sz)) (vx_X (fun (_ : Unit) => True) (fun (E : String) (_ : Unit) (_ : State) => E = "java/util/NoSuchElementException") (va_A [(h0, .inr (10, [.ref xa1, .ref xa3, .ref xa15, .ref xa27, .ref xa28, .ref xa33, .ref xa38, .ref xa41, .ref xa45, .ref xa46, .ref xa47, .ref xa52, .ref xa54, .int 0, .ref xa55, .ref xa60, .ref xa62, .ref xa67, .int (-1)])), (xa3, .inr (2, [.ref xa4, .ref xa5, .ref xa6, .ref xa7, .ref xa8, .ref xa9, .ref xa10, .int 0, .int 0, .int 0, .int 5, .ref xa11, .ref xa12, .ref xa13, .ref xa14]))] sz)) 1 6 (va_A [(h0, .inr (10, [.ref xa1, .ref xa3, .ref xa15, .ref xa27, .ref xa28, .ref xa33, .ref xa38, .ref xa41, .ref xa45, .ref xa46, .ref xa47, .ref xa52, .ref xa54, .int 0, .ref xa55, .ref xa60, .ref xa62, .ref xa67, .int (-1)])), (xa3, .inr (2, [.ref xa4, .ref xa5, .ref xa6, .ref xa7, .ref xa8, .ref xa9, .ref xa10, .int 0, .int 0, .int 0, .int 5, .ref xa11, .ref xa12, .ref xa13, .ref xa14]))] sz) := by
  refine vx_ofW (cc := cX10_mustBeGoal) (maxL := 2) (ret := none) (by decide) rfl ?_
  intro p e s m args0 below meth c s₁ B hml hexT hv
  obtain ⟨hargs, hsz, hP, hE, hD0, hXs, hT⟩ := hv
  have hx := B.exec
  have hb := B.bytes
  have hr := B.returns
  have hts := atoms_spec (ws := wsX10_mustBeGoal) B.pre
  have hown : s.vm.findClass RX10 = some m.cls := findClass_of_methodNamed B.named
  have hlocks := B.notSynchronized
  have hK := hE.1
  have hin10 : ∀ w ∈ wsX100, w ∈ wsX10_mustBeGoal := fun _ h9 => List.mem_cons_of_mem _ (List.mem_append_left _ (List.mem_append_left _ (List.mem_append_right _ h9)))
  have hin2 : ∀ w ∈ wsX20, w ∈ wsX10_mustBeGoal := fun _ h9 => List.mem_cons_of_mem _ (List.mem_append_left _ (List.mem_append_right _ h9))
  subst hsz
  have hD := hD0.self (sz := s.heap.size)
  generalize hAe : va_A [(h0, .inr (10, [.ref xa1, .ref xa3, .ref xa15, .ref xa27, .ref xa28, .ref xa33, .ref xa38, .ref xa41, .ref xa45, .ref xa46, .ref xa47, .ref xa52, .ref xa54, .int 0, .ref xa55, .ref xa60, .ref xa62, .ref xa67, .int (-1)])), (xa3, .inr (2, [.ref xa4, .ref xa5, .ref xa6, .ref xa7, .ref xa8, .ref xa9, .ref xa10, .int 0, .int 0, .int 0, .int 5, .ref xa11, .ref xa12, .ref xa13, .ref xa14]))] s.heap.size = A at hD hT ⊢
  have hA : ∀ q : Nat, s.heap.size ≤ q → A q := fun q h => by rw [← hAe]; exact Or.inr h
  have hS : va_S A s.heap s.heap [] := va_S.rf
  have hP : va_P (dC, dI) vwCl [(h0, .inr (10, [.ref xa1, .ref xa3, .ref xa15, .ref xa27, .ref xa28, .ref xa33, .ref xa38, .ref xa41, .ref xa45, .ref xa46, .ref xa47, .ref xa52, .ref xa54, .int 0, .ref xa55, .ref xa60, .ref xa62, .ref xa67, .int (-1)])), (xa3, .inr (2, [.ref xa4, .ref xa5, .ref xa6, .ref xa7, .ref xa8, .ref xa9, .ref xa10, .int 0, .int 0, .int 0, .int 5, .ref xa11, .ref xa12, .ref xa13, .ref xa14]))] s.heap := hP
  have hl := lv_entry ([.ref h0, .int p0]) (n := 2) (Nat.le_of_ble_eq_true rfl)
  have hla : entryFrame m args0 2 = entryFrame m ([.ref h0, .int p0] : List Value).toArray 2 := by rw [hargs]
  rw [hla, lg_entry_eq]
  generalize (lg_sl ([.ref h0, .int p0]) ++ List.replicate (2 - (lg_sl ([.ref h0, .int p0])).length) Slot.unset).toArray = ls at hl ⊢
  have hl : lv_has ls 2 [(0, .ref h0), (1, .int p0)] := hl
  refine lv_aload_n hx hb dX10_mustBeGoal_0 rfl (lv_at hl 0 rfl) ?_
  refine va_get (D := (dC, dI)) (ci := 10) (v := .ref xa3) (C := RX10) (T := TX10) (N := 19) hx hb hts hin10 hown hK hP 0 rfl rfl 1 (by decide) (hts (.fieldLink RX10 19 "PathProber" "told" "LPathProber$Net;") (List.mem_of_getElem? (i := 3) (by decide +kernel))) (fun _ h9 => h9) rfl dX10_mustBeGoal_1 ?_
  refine lv_iload_n hx hb dX10_mustBeGoal_4 rfl (lv_at hl 1 rfl) ?_
  have hPc := hP.sub (ws' := [(xa3, .inr (2, [.ref xa4, .ref xa5, .ref xa6, .ref xa7, .ref xa8, .ref xa9, .ref xa10, .int 0, .int 0, .int 0, .int 5, .ref xa11, .ref xa12, .ref xa13, .ref xa14]))]) [1] rfl
  have hDc := hD.sub (ws' := [(xa3, .inr (2, [.ref xa4, .ref xa5, .ref xa6, .ref xa7, .ref xa8, .ref xa9, .ref xa10, .int 0, .int 0, .int 0, .int 5, .ref xa11, .ref xa12, .ref xa13, .ref xa14]))]) [1] (by decide) rfl
  have hFc := va_free (wc := [(xa3, .inr (2, [.ref xa4, .ref xa5, .ref xa6, .ref xa7, .ref xa8, .ref xa9, .ref xa10, .int 0, .int 0, .int 0, .int 5, .ref xa11, .ref xa12, .ref xa13, .ref xa14]))]) hD hS hA [1] rfl
  refine va_calli (va_runV (As := [.int p0]) (rest := []) ⟨hx, hb, hml, hown, hts⟩ (k2_hasGoal l dC dI kB kI kJ kZ kC kS s.heap.size xa3 xa4 xa5 xa6 xa7 xa8 xa9 xa10 xa11 xa12 xa13 xa14 p0) (cwV 1 hts gX10_mustBeGoal_X2_hasGoal rfl rfl rfl (by decide +kernel) ⟨Nat.le_of_ble_eq_true rfl, Nat.le_of_ble_eq_true rfl⟩) ⟨fun a U g mk q => by obtain ⟨q0, q1, qP, qE, qD⟩ := q; exact ⟨q0, q1, qP, kE_call qE, qD⟩, va_recv hK hP (ci := 2) (q0 := 1) rfl rfl, fun U hU hW => ⟨rfl, by rw [hU], by rw [hU]; exact hPc, kE_warm hW hE, hDc.weaken (fun _ _ _ _ => trivial)⟩⟩ rfl rfl hl.1 rfl (lv_room (Nat.le_of_ble_eq_true rfl)) dX10_mustBeGoal_5 ⟨Nat.le_of_ble_eq_true rfl, Nat.le_of_ble_eq_true rfl⟩) hS (fun q _ h => hFc q h) hFc (fun r1 u t H1 locs ht hvm w2 hB hz1 hk1 hS => ?_)
  obtain ⟨hP1, hD1⟩ := hB
  rw [ht] at hP1
  try dsimp only at w2
  obtain ⟨hP, hD⟩ := va_join (wr := [(h0, .inr (10, [.ref xa1, .ref xa3, .ref xa15, .ref xa27, .ref xa28, .ref xa33, .ref xa38, .ref xa41, .ref xa45, .ref xa46, .ref xa47, .ref xa52, .ref xa54, .int 0, .ref xa55, .ref xa60, .ref xa62, .ref xa67, .int (-1)]))]) (w1 := [(xa3, .inr (2, [.ref xa4, .ref xa5, .ref xa6, .ref xa7, .ref xa8, .ref xa9, .ref xa10, .int 0, .int 0, .int 0, .int 5, .ref xa11, .ref xa12, .ref xa13, .ref xa14]))]) hP hD [1] [0] rfl rfl (by decide) (by decide) hk1 hFc hP1 hD1
  generalize H1 = H at hP hS ⊢
  have hP : va_P (dC, dI) vwCl [(h0, .inr (10, [.ref xa1, .ref xa3, .ref xa15, .ref xa27, .ref xa28, .ref xa33, .ref xa38, .ref xa41, .ref xa45, .ref xa46, .ref xa47, .ref xa52, .ref xa54, .int 0, .ref xa55, .ref xa60, .ref xa62, .ref xa67, .int (-1)])), (xa3, .inr (2, [.ref xa4, .ref xa5, .ref xa6, .ref xa7, .ref xa8, .ref xa9, .ref xa10, .int 0, .int 0, .int 0, .int 5, .ref xa11, .ref xa12, .ref xa13, .ref xa14]))] H := hP
  have hD : va_D A [(h0, .inr (10, [.ref xa1, .ref xa3, .ref xa15, .ref xa27, .ref xa28, .ref xa33, .ref xa38, .ref xa41, .ref xa45, .ref xa46, .ref xa47, .ref xa52, .ref xa54, .int 0, .ref xa55, .ref xa60, .ref xa62, .ref xa67, .int (-1)])), (xa3, .inr (2, [.ref xa4, .ref xa5, .ref xa6, .ref xa7, .ref xa8, .ref xa9, .ref xa10, .int 0, .int 0, .int 0, .int 5, .ref xa11, .ref xa12, .ref xa13, .ref xa14]))] := hD
  refine W.widen (k := 0) (n := 0) (Nat.le_of_ble_eq_true rfl) (Nat.le_of_ble_eq_true rfl) ?_
  subst w2
  refine lv_if_ne (tgt := 22) hx hb dX10_mustBeGoal_8 (by decide) (fun c9 => absurd (by decide) c9) (fun _ => ?_)
  obtain ⟨sa3, hstr⟩ := hXs.2.2.2.2.2.2.2.2.2.2.2.2.2.2.2.2.2.2.2.1
  exact vx_throwSXW (names := ["java/lang/RuntimeException", "java/lang/Exception"]) hx hb hst (ix := 13) (rx := kNse) (by decide +kernel) (by decide +kernel) (by decide +kernel) (by decide +kernel) hown (by decide +kernel) (by decide +kernel) (hts (.classLink RX10 195 "java/util/NoSuchElementException") (List.mem_of_getElem? (i := 1) (by decide +kernel))) (hts (.initialized "java/util/NoSuchElementException") (List.mem_of_getElem? (i := 2) (by decide +kernel))) hstr (vx_hat (L := vx_atSX RX10 199 "java/util/NoSuchElementException" 13 kNse ["java/lang/RuntimeException", "java/lang/Exception"]) (B := [.castable "java/util/NoSuchElementException" "java/util/NoSuchElementException", .declares ⟨"java/lang/RuntimeException", "<init>", "(Ljava/lang/String;)V"⟩, .declares ⟨"java/lang/Exception", "<init>", "(Ljava/lang/String;)V"⟩, .declares ⟨"java/lang/Throwable", "<init>", "(Ljava/lang/String;)V"⟩]) (fun w hw => hts w ((by decide +kernel : ∀ w ∈ (vx_atSX RX10 199 "java/util/NoSuchElementException" 13 kNse ["java/lang/RuntimeException", "java/lang/Exception"]).filter goodWord, w ∈ wsX10_mustBeGoal) w hw)) (by decide +kernel) (vx_c (va_Nw.use rfl hXs.1) (vx_c (va_Nw.use rfl hXs.2.2.1) (vx_c (va_Nw.use rfl hXs.2.2.2.1) (vx_c (va_Nw.use rfl hXs.2.2.2.2.1) (vx_n)))))) (by decide +kernel) hT.1 hT.2 hS (by rw [hml]; exact hl.1) dX10_mustBeGoal_11 dX10_mustBeGoal_14 dX10_mustBeGoal_15 dX10_mustBeGoal_18 dX10_mustBeGoal_21 (fun x h9 => (hexT x h9).elim) (Nat.le_of_ble_eq_true rfl) (Nat.le_of_ble_eq_true rfl) (Nat.le_of_ble_eq_true rfl) (Nat.le_of_ble_eq_true rfl) hlocks (fun t9 _ h8 h9 => ⟨(), trivial, rfl, Nat.le_trans hS.1 h8, fun q h1 h2 => (h9 q (Nat.lt_of_lt_of_le h1 hS.1)).trans (hS.2.1 q h1 h2)⟩) hS.2.2 (Nat.le_of_ble_eq_true rfl) (Nat.le_of_ble_eq_true rfl)
def rm_k10_mustBeAddress : Room := { frames := 6, cells := 1, slots := 6, locals := 82 }
set_option maxHeartbeats 4000000 in
set_option maxRecDepth 100000 in
theorem k10_mustBeAddress (l : Launch) (hst : l.stackTraces = false) (dC : Nat → ClassId) (dI : Nat → Nat → Nat) (kB kI kJ kZ kC kS : ClassId) (sz : Nat) (h0 : Nat) (xa1 : Nat) (xa3 : Nat) (xa15 : Nat) (xa27 : Nat) (xa28 : Nat) (xa33 : Nat) (xa38 : Nat) (xa41 : Nat) (xa45 : Nat) (xa46 : Nat) (xa47 : Nat) (xa52 : Nat) (xa54 : Nat) (xa55 : Nat) (xa60 : Nat) (xa62 : Nat) (xa67 : Nat) (xa4 : Nat) (xa5 : Nat) (xa6 : Nat) (xa7 : Nat) (xa8 : Nat) (xa9 : Nat) (xa10 : Nat) (xa11 : Nat) (xa12 : Nat) (xa13 : Nat) (xa14 : Nat) (p0 : Int32) : vx_Met l yX10_mustBeAddress wsX10_mustBeAddress rm_k10_mustBeAddress (va_Pc [.ref h0, .int p0] (fun U => U.heap.size = sz ∧ va_P (dC, dI) vwCl [(h0, .inr (10, [.ref xa1, .ref xa3, .ref xa15, .ref xa27, .ref xa28, .ref xa33, .ref xa38, .ref xa41, .ref xa45, .ref xa46, .ref xa47, .ref xa52, .ref xa54, .int 0, .ref xa55, .ref xa60, .ref xa62, .ref xa67, .int (-1)])), (xa3, .inr (2, [.ref xa4, .ref xa5, .ref xa6, .ref xa7, .ref xa8, .ref xa9, .ref xa10, .int 0, .int 0, .int 0, .int 5, .ref xa11, .ref xa12, .ref xa13, .ref xa14]))] U.heap ∧ kE dC dI kB kI kJ kZ kC kS U ∧ va_D (fun _ => True) [(h0, .inr (10, [.ref xa1, .ref xa3, .ref xa15, .ref xa27, .ref xa28, .ref xa33, .ref xa38, .ref xa41, .ref xa45, .ref xa46, .ref xa47, .ref xa52, .ref xa54, .int 0, .ref xa55, .ref xa60, .ref xa62, .ref xa67, .int (-1)])), (xa3, .inr (2, [.ref xa4, .ref xa5, .ref xa6, .ref xa7, .ref xa8, .ref xa9, .ref xa10, .int 0, .int 0, .int 0, .int 5, .ref xa11, .ref xa12, .ref xa13, .ref xa14]))] ∧ kX U ∧ kT (va_A [(h0, .inr (10, [.ref xa1, .ref xa3, .ref xa15, .ref xa27, .ref xa28, .ref xa33, .ref xa38, .ref xa41, .ref xa45, .ref xa46, .ref xa47, .ref xa52, .ref xa54, .int 0, .ref xa55, .ref xa60, .ref xa62, .ref xa67, .int (-1)])), (xa3, .inr (2, [.ref xa4, .ref xa5, .ref xa6, .ref xa7, .ref xa8, .ref xa9, .ref xa10, .int 0, .int 0, .int 0, .int 5, .ref xa11, .ref xa12, .ref xa13, .ref xa14]))] sz) U)) (va_Qv (fun (_ : Unit) => False) (fun _ t => va_P (dC, dI) vwCl [] t.heap ∧ va_D (va_A [(h0, .inr (10, [.ref xa1, .ref xa3, .ref xa15, .ref xa27, .ref xa28, .ref xa33, .ref xa38, .ref xa41, .ref xa45, .ref xa46, .ref xa47, .ref xa52, .ref xa54, .int 0, .ref xa55, .ref xa60, .ref xa62, .ref xa67, .int (-1)])), (xa3, .inr (2, [.ref xa4, .ref xa5, .ref xa6, .ref xa7, .ref xa8, .ref xa9, .ref xa10, .int 0, .int 0, .int 0, .int 5, .ref xa11, .ref xa12, .ref xa13, .ref xa14]))] sz) []) (va_A [(h0, .inr (10, [.ref xa1, .ref xa3, .ref xa15, .ref xa27, .ref xa28, .ref xa33, .ref xa38, .ref xa41, .ref xa45, .ref xa46, .ref xa47, .ref xa52, .ref xa54, .int 0, .ref xa55, .ref xa60, .ref xa62, .ref xa67, .int (-1)])), (xa3, .inr (2, [.ref xa4, .ref xa5, .ref xa6, .ref xa7, .ref xa8, .ref xa9, .ref xa10, .int 0, .int 0, .int 0, .int 5, .ref xa11, .ref xa12, .ref xa13, .ref xa14]))] sz)) (vx_X (fun (_ : Unit) => True) (fun (E : String) (_ : Unit) (_ : State) => E = "java/util/NoSuchElementException") (va_A [(h0, .inr (10, [.ref xa1, .ref xa3, .ref xa15, .ref xa27, .ref xa28, .ref xa33, .ref xa38, .ref xa41, .ref xa45, .ref xa46, .ref xa47, .ref xa52, .ref xa54, .int 0, .ref xa55, .ref xa60, .ref xa62, .ref xa67, .int (-1)])), (xa3, .inr (2, [.ref xa4, .ref xa5, .ref xa6, .ref xa7, .ref xa8, .ref xa9, .ref xa10, .int 0, .int 0, .int 0, .int 5, .ref xa11, .ref xa12, .ref xa13, .ref xa14]))] sz)) 1 6 (va_A [(h0, .inr (10, [.ref xa1, .ref xa3, .ref xa15, .ref xa27, .ref xa28, .ref xa33, .ref xa38, .ref xa41, .ref xa45, .ref xa46, .ref xa47, .ref xa52, .ref xa54, .int 0, .ref xa55, .ref xa60, .ref xa62, .ref xa67, .int (-1)])), (xa3, .inr (2, [.ref xa4, .ref xa5, .ref xa6, .ref xa7, .ref xa8, .ref xa9, .ref xa10, .int 0, .int 0, .int 0, .int 5, .ref xa11, .ref xa12, .ref xa13, .ref xa14]))] sz) := by
  refine vx_ofW (cc := cX10_mustBeAddress) (maxL := 2) (ret := none) (by decide) rfl ?_
  intro p e s m args0 below meth c s₁ B hml hexT hv
  obtain ⟨hargs, hsz, hP, hE, hD0, hXs, hT⟩ := hv
  have hx := B.exec
  have hb := B.bytes
  have hr := B.returns
  have hts := atoms_spec (ws := wsX10_mustBeAddress) B.pre
  have hown : s.vm.findClass RX10 = some m.cls := findClass_of_methodNamed B.named
  have hlocks := B.notSynchronized
  have hK := hE.1
  have hin10 : ∀ w ∈ wsX100, w ∈ wsX10_mustBeAddress := fun _ h9 => List.mem_cons_of_mem _ (List.mem_append_left _ (List.mem_append_left _ (List.mem_append_right _ h9)))
  have hin2 : ∀ w ∈ wsX20, w ∈ wsX10_mustBeAddress := fun _ h9 => List.mem_cons_of_mem _ (List.mem_append_left _ (List.mem_append_right _ h9))
  subst hsz
  have hD := hD0.self (sz := s.heap.size)
  generalize hAe : va_A [(h0, .inr (10, [.ref xa1, .ref xa3, .ref xa15, .ref xa27, .ref xa28, .ref xa33, .ref xa38, .ref xa41, .ref xa45, .ref xa46, .ref xa47, .ref xa52, .ref xa54, .int 0, .ref xa55, .ref xa60, .ref xa62, .ref xa67, .int (-1)])), (xa3, .inr (2, [.ref xa4, .ref xa5, .ref xa6, .ref xa7, .ref xa8, .ref xa9, .ref xa10, .int 0, .int 0, .int 0, .int 5, .ref xa11, .ref xa12, .ref xa13, .ref xa14]))] s.heap.size = A at hD hT ⊢
  have hA : ∀ q : Nat, s.heap.size ≤ q → A q := fun q h => by rw [← hAe]; exact Or.inr h
  have hS : va_S A s.heap s.heap [] := va_S.rf
  have hP : va_P (dC, dI) vwCl [(h0, .inr (10, [.ref xa1, .ref xa3, .ref xa15, .ref xa27, .ref xa28, .ref xa33, .ref xa38, .ref xa41, .ref xa45, .ref xa46, .ref xa47, .ref xa52, .ref xa54, .int 0, .ref xa55, .ref xa60, .ref xa62, .ref xa67, .int (-1)])), (xa3, .inr (2, [.ref xa4, .ref xa5, .ref xa6, .ref xa7, .ref xa8, .ref xa9, .ref xa10, .int 0, .int 0, .int 0, .int 5, .ref xa11, .ref xa12, .ref xa13, .ref xa14]))] s.heap := hP
  have hl := lv_entry ([.ref h0, .int p0]) (n := 2) (Nat.le_of_ble_eq_true rfl)
  have hla : entryFrame m args0 2 = entryFrame m ([.ref h0, .int p0] : List Value).toArray 2 := by rw [hargs]
  rw [hla, lg_entry_eq]
  generalize (lg_sl ([.ref h0, .int p0]) ++ List.replicate (2 - (lg_sl ([.ref h0, .int p0])).length) Slot.unset).toArray = ls at hl ⊢
  have hl : lv_has ls 2 [(0, .ref h0), (1, .int p0)] := hl
  refine lv_aload_n hx hb dX10_mustBeAddress_0 rfl (lv_at hl 0 rfl) ?_
  refine va_get (D := (dC, dI)) (ci := 10) (v := .ref xa3) (C := RX10) (T := TX10) (N := 19) hx hb hts hin10 hown hK hP 0 rfl rfl 1 (by decide) (hts (.fieldLink RX10 19 "PathProber" "told" "LPathProber$Net;") (List.mem_of_getElem? (i := 3) (by decide +kernel))) (fun _ h9 => h9) rfl dX10_mustBeAddress_1 ?_
  refine lv_iload_n hx hb dX10_mustBeAddress_4 rfl (lv_at hl 1 rfl) ?_
  have hPc := hP.sub (ws' := [(xa3, .inr (2, [.ref xa4, .ref xa5, .ref xa6, .ref xa7, .ref xa8, .ref xa9, .ref xa10, .int 0, .int 0, .int 0, .int 5, .ref xa11, .ref xa12, .ref xa13, .ref xa14]))]) [1] rfl
  have hDc := hD.sub (ws' := [(xa3, .inr (2, [.ref xa4, .ref xa5, .ref xa6, .ref xa7, .ref xa8, .ref xa9, .ref xa10, .int 0, .int 0, .int 0, .int 5, .ref xa11, .ref xa12, .ref xa13, .ref xa14]))]) [1] (by decide) rfl
  have hFc := va_free (wc := [(xa3, .inr (2, [.ref xa4, .ref xa5, .ref xa6, .ref xa7, .ref xa8, .ref xa9, .ref xa10, .int 0, .int 0, .int 0, .int 5, .ref xa11, .ref xa12, .ref xa13, .ref xa14]))]) hD hS hA [1] rfl
  refine va_calli (va_runV (As := [.int p0]) (rest := []) ⟨hx, hb, hml, hown, hts⟩ (k2_hasAddress l dC dI kB kI kJ kZ kC kS s.heap.size xa3 xa4 xa5 xa6 xa7 xa8 xa9 xa10 xa11 xa12 xa13 xa14 p0) (cwV 1 hts gX10_mustBeAddress_X2_hasAddress rfl rfl rfl (by decide +kernel) ⟨Nat.le_of_ble_eq_true rfl, Nat.le_of_ble_eq_true rfl⟩) ⟨fun a U g mk q => by obtain ⟨q0, q1, qP, qE, qD⟩ := q; exact ⟨q0, q1, qP, kE_call qE, qD⟩, va_recv hK hP (ci := 2) (q0 := 1) rfl rfl, fun U hU hW => ⟨rfl, by rw [hU], by rw [hU]; exact hPc, kE_warm hW hE, hDc.weaken (fun _ _ _ _ => trivial)⟩⟩ rfl rfl hl.1 rfl (lv_room (Nat.le_of_ble_eq_true rfl)) dX10_mustBeAddress_5 ⟨Nat.le_of_ble_eq_true rfl, Nat.le_of_ble_eq_true rfl⟩) hS (fun q _ h => hFc q h) hFc (fun r1 u t H1 locs ht hvm w2 hB hz1 hk1 hS => ?_)
  obtain ⟨hP1, hD1⟩ := hB
  rw [ht] at hP1
  try dsimp only at w2
  obtain ⟨hP, hD⟩ := va_join (wr := [(h0, .inr (10, [.ref xa1, .ref xa3, .ref xa15, .ref xa27, .ref xa28, .ref xa33, .ref xa38, .ref xa41, .ref xa45, .ref xa46, .ref xa47, .ref xa52, .ref xa54, .int 0, .ref xa55, .ref xa60, .ref xa62, .ref xa67, .int (-1)]))]) (w1 := [(xa3, .inr (2, [.ref xa4, .ref xa5, .ref xa6, .ref xa7, .ref xa8, .ref xa9, .ref xa10, .int 0, .int 0, .int 0, .int 5, .ref xa11, .ref xa12, .ref xa13, .ref xa14]))]) hP hD [1] [0] rfl rfl (by decide) (by decide) hk1 hFc hP1 hD1
  generalize H1 = H at hP hS ⊢
  have hP : va_P (dC, dI) vwCl [(h0, .inr (10, [.ref xa1, .ref xa3, .ref xa15, .ref xa27, .ref xa28, .ref xa33, .ref xa38, .ref xa41, .ref xa45, .ref xa46, .ref xa47, .ref xa52, .ref xa54, .int 0, .ref xa55, .ref xa60, .ref xa62, .ref xa67, .int (-1)])), (xa3, .inr (2, [.ref xa4, .ref xa5, .ref xa6, .ref xa7, .ref xa8, .ref xa9, .ref xa10, .int 0, .int 0, .int 0, .int 5, .ref xa11, .ref xa12, .ref xa13, .ref xa14]))] H := hP
  have hD : va_D A [(h0, .inr (10, [.ref xa1, .ref xa3, .ref xa15, .ref xa27, .ref xa28, .ref xa33, .ref xa38, .ref xa41, .ref xa45, .ref xa46, .ref xa47, .ref xa52, .ref xa54, .int 0, .ref xa55, .ref xa60, .ref xa62, .ref xa67, .int (-1)])), (xa3, .inr (2, [.ref xa4, .ref xa5, .ref xa6, .ref xa7, .ref xa8, .ref xa9, .ref xa10, .int 0, .int 0, .int 0, .int 5, .ref xa11, .ref xa12, .ref xa13, .ref xa14]))] := hD
  refine W.widen (k := 0) (n := 0) (Nat.le_of_ble_eq_true rfl) (Nat.le_of_ble_eq_true rfl) ?_
  subst w2
  refine lv_if_ne (tgt := 22) hx hb dX10_mustBeAddress_8 (by decide) (fun c9 => absurd (by decide) c9) (fun _ => ?_)
  obtain ⟨sa3, hstr⟩ := hXs.2.2.2.2.2.2.2.2.2.2.2.2.2.2.2.2.2.2.2.2
  exact vx_throwSXW (names := ["java/lang/RuntimeException", "java/lang/Exception"]) hx hb hst (ix := 13) (rx := kNse) (by decide +kernel) (by decide +kernel) (by decide +kernel) (by decide +kernel) hown (by decide +kernel) (by decide +kernel) (hts (.classLink RX10 195 "java/util/NoSuchElementException") (List.mem_of_getElem? (i := 1) (by decide +kernel))) (hts (.initialized "java/util/NoSuchElementException") (List.mem_of_getElem? (i := 2) (by decide +kernel))) hstr (vx_hat (L := vx_atSX RX10 199 "java/util/NoSuchElementException" 13 kNse ["java/lang/RuntimeException", "java/lang/Exception"]) (B := [.castable "java/util/NoSuchElementException" "java/util/NoSuchElementException", .declares ⟨"java/lang/RuntimeException", "<init>", "(Ljava/lang/String;)V"⟩, .declares ⟨"java/lang/Exception", "<init>", "(Ljava/lang/String;)V"⟩, .declares ⟨"java/lang/Throwable", "<init>", "(Ljava/lang/String;)V"⟩]) (fun w hw => hts w ((by decide +kernel : ∀ w ∈ (vx_atSX RX10 199 "java/util/NoSuchElementException" 13 kNse ["java/lang/RuntimeException", "java/lang/Exception"]).filter goodWord, w ∈ wsX10_mustBeAddress) w hw)) (by decide +kernel) (vx_c (va_Nw.use rfl hXs.1) (vx_c (va_Nw.use rfl hXs.2.2.1) (vx_c (va_Nw.use rfl hXs.2.2.2.1) (vx_c (va_Nw.use rfl hXs.2.2.2.2.1) (vx_n)))))) (by decide +kernel) hT.1 hT.2 hS (by rw [hml]; exact hl.1) dX10_mustBeAddress_11 dX10_mustBeAddress_14 dX10_mustBeAddress_15 dX10_mustBeAddress_18 dX10_mustBeAddress_21 (fun x h9 => (hexT x h9).elim) (Nat.le_of_ble_eq_true rfl) (Nat.le_of_ble_eq_true rfl) (Nat.le_of_ble_eq_true rfl) (Nat.le_of_ble_eq_true rfl) hlocks (fun t9 _ h8 h9 => ⟨(), trivial, rfl, Nat.le_trans hS.1 h8, fun q h1 h2 => (h9 q (Nat.lt_of_lt_of_le h1 hS.1)).trans (hS.2.1 q h1 h2)⟩) hS.2.2 (Nat.le_of_ble_eq_true rfl) (Nat.le_of_ble_eq_true rfl)
def rm_k10_refuseAct : Room := { frames := 0, cells := 0, slots := 0, locals := 0 }
set_option maxHeartbeats 4000000 in
set_option maxRecDepth 100000 in
theorem k10_refuseAct (l : Launch) (dC : Nat → ClassId) (dI : Nat → Nat → Nat) (kB kI kJ kZ kC kS : ClassId) (sz : Nat) (h0 : Nat) (xa1 : Nat) (xa3 : Nat) (xa15 : Nat) (xa27 : Nat) (xa28 : Nat) (xa33 : Nat) (xa38 : Nat) (xa41 : Nat) (xa45 : Nat) (xa46 : Nat) (xa47 : Nat) (xa52 : Nat) (xa54 : Nat) (xa55 : Nat) (xa60 : Nat) (xa62 : Nat) (xa67 : Nat) : Met l yX10_refuseAct wsX10_refuseAct rm_k10_refuseAct (va_Pc [.ref h0] (fun U => U.heap.size = sz ∧ va_P (dC, dI) vwCl [(h0, .inr (10, [.ref xa1, .ref xa3, .ref xa15, .ref xa27, .ref xa28, .ref xa33, .ref xa38, .ref xa41, .ref xa45, .ref xa46, .ref xa47, .ref xa52, .ref xa54, .int 0, .ref xa55, .ref xa60, .ref xa62, .ref xa67, .int (-1)])), (xa54, .inl (kI, 3, .inl (fun _ => 0)))] U.heap ∧ kE dC dI kB kI kJ kZ kC kS U ∧ va_D (fun _ => True) [(h0, .inr (10, [.ref xa1, .ref xa3, .ref xa15, .ref xa27, .ref xa28, .ref xa33, .ref xa38, .ref xa41, .ref xa45, .ref xa46, .ref xa47, .ref xa52, .ref xa54, .int 0, .ref xa55, .ref xa60, .ref xa62, .ref xa67, .int (-1)])), (xa54, .inl (kI, 3, .inl (fun _ => 0)))])) (va_Qi (fun (r : Int32) (_ : Unit) => r = -1) (fun _ t => va_P (dC, dI) vwCl [] t.heap ∧ va_D (va_A [(h0, .inr (10, [.ref xa1, .ref xa3, .ref xa15, .ref xa27, .ref xa28, .ref xa33, .ref xa38, .ref xa41, .ref xa45, .ref xa46, .ref xa47, .ref xa52, .ref xa54, .int 0, .ref xa55, .ref xa60, .ref xa62, .ref xa67, .int (-1)])), (xa54, .inl (kI, 3, .inl (fun _ => 0)))] sz) []) (va_A [(h0, .inr (10, [.ref xa1, .ref xa3, .ref xa15, .ref xa27, .ref xa28, .ref xa33, .ref xa38, .ref xa41, .ref xa45, .ref xa46, .ref xa47, .ref xa52, .ref xa54, .int 0, .ref xa55, .ref xa60, .ref xa62, .ref xa67, .int (-1)])), (xa54, .inl (kI, 3, .inl (fun _ => 0)))] sz)) 0 0 (va_A [(h0, .inr (10, [.ref xa1, .ref xa3, .ref xa15, .ref xa27, .ref xa28, .ref xa33, .ref xa38, .ref xa41, .ref xa45, .ref xa46, .ref xa47, .ref xa52, .ref xa54, .int 0, .ref xa55, .ref xa60, .ref xa62, .ref xa67, .int (-1)])), (xa54, .inl (kI, 3, .inl (fun _ => 0)))] sz) := by
  refine Met.ofW (cc := cX10_refuseAct) (maxL := 1) (ret := (some .int)) (by decide) rfl ?_
  intro p e s m args0 below meth c s₁ B hml hv
  obtain ⟨hargs, hsz, hP, hE, hD0⟩ := hv
  have hx := B.exec
  have hb := B.bytes
  have hr := B.returns
  have hts := atoms_spec (ws := wsX10_refuseAct) B.pre
  have hown : s.vm.findClass RX10 = some m.cls := findClass_of_methodNamed B.named
  have hlocks := B.notSynchronized
  have hK := hE.1
  have hin10 : ∀ w ∈ wsX100, w ∈ wsX10_refuseAct := fun _ h9 => List.mem_cons_of_mem _ (List.mem_append_right _ h9)
  subst hsz
  have hD := hD0.self (sz := s.heap.size)
  generalize hAe : va_A [(h0, .inr (10, [.ref xa1, .ref xa3, .ref xa15, .ref xa27, .ref xa28, .ref xa33, .ref xa38, .ref xa41, .ref xa45, .ref xa46, .ref xa47, .ref xa52, .ref xa54, .int 0, .ref xa55, .ref xa60, .ref xa62, .ref xa67, .int (-1)])), (xa54, .inl (kI, 3, .inl (fun _ => 0)))] s.heap.size = A at hD ⊢
  have hA : ∀ q : Nat, s.heap.size ≤ q → A q := fun q h => by rw [← hAe]; exact Or.inr h
  have hS : va_S A s.heap s.heap [] := va_S.rf
  have hP : va_P (dC, dI) vwCl [(h0, .inr (10, [.ref xa1, .ref xa3, .ref xa15, .ref xa27, .ref xa28, .ref xa33, .ref xa38, .ref xa41, .ref xa45, .ref xa46, .ref xa47, .ref xa52, .ref xa54, .int 0, .ref xa55, .ref xa60, .ref xa62, .ref xa67, .int (-1)])), (xa54, .inl (kI, 3, .inl (fun _ => 0)))] s.heap := hP
  have hl := lv_entry ([.ref h0]) (n := 1) (Nat.le_of_ble_eq_true rfl)
  have hla : entryFrame m args0 1 = entryFrame m ([.ref h0] : List Value).toArray 1 := by rw [hargs]
  rw [hla, lg_entry_eq]
  generalize (lg_sl ([.ref h0]) ++ List.replicate (1 - (lg_sl ([.ref h0])).length) Slot.unset).toArray = ls at hl ⊢
  have hl : lv_has ls 1 [(0, .ref h0)] := hl
  refine lv_aload_n hx hb dX10_refuseAct_0 rfl (lv_at hl 0 rfl) ?_
  refine va_get (D := (dC, dI)) (ci := 10) (v := .ref xa54) (C := RX10) (T := TX10) (N := 19) hx hb hts hin10 hown hK hP 0 rfl rfl 12 (by decide) (hts (.fieldLink RX10 93 "PathProber" "status" "[I") (List.mem_of_getElem? (i := 1) (by decide +kernel))) (fun _ h9 => h9) rfl dX10_refuseAct_1 ?_
  refine lv_iconst (v := 1) hx hb dX10_refuseAct_4 (by decide) ?_
  refine lv_dup2_11 hx hb dX10_refuseAct_5 rfl rfl ?_
  refine va_iald hx hb hK hP 1 1 rfl rfl (vp_in_nI (n := 1) (by decide) (by decide)) dX10_refuseAct_6 ?_
  refine lv_topi (fun z1 e2 => ?_)
  obtain rfl : z1 = (0 : Int32) := e2
  refine lv_iconst (v := 1) hx hb dX10_refuseAct_7 (by decide) ?_
  refine lv_iadd hx hb dX10_refuseAct_8 ?_
  refine lv_topi (fun z3 e4 => ?_)
  obtain rfl : z3 = (1 : Int32) := e4.trans (by decide)
  refine va_iast hx hb hK hP hD hS 1 1 rfl rfl (vp_in_nI (n := 1) (by decide) (by decide)) dX10_refuseAct_9 (fun H locs hP hD hS => ?_)
  have hP : va_P (dC, dI) vwCl [(h0, .inr (10, [.ref xa1, .ref xa3, .ref xa15, .ref xa27, .ref xa28, .ref xa33, .ref xa38, .ref xa41, .ref xa45, .ref xa46, .ref xa47, .ref xa52, .ref xa54, .int 0, .ref xa55, .ref xa60, .ref xa62, .ref xa67, .int (-1)])), (xa54, .inl (kI, 3, .inl (upd (fun _ => 0) 1 1)))] H := hP
  have hD : va_D A [(h0, .inr (10, [.ref xa1, .ref xa3, .ref xa15, .ref xa27, .ref xa28, .ref xa33, .ref xa38, .ref xa41, .ref xa45, .ref xa46, .ref xa47, .ref xa52, .ref xa54, .int 0, .ref xa55, .ref xa60, .ref xa62, .ref xa67, .int (-1)])), (xa54, .inl (kI, 3, .inl (upd (fun _ => 0) 1 1)))] := hD
  refine lv_iconst (v := (-1)) hx hb dX10_refuseAct_10 (by decide) ?_
  have hP9 := hP.sub (ws' := []) [] rfl
  have hD9 := hD.sub (ws' := []) [] (by decide) rfl
  exact W.iret (v := (-1)) hx hb hr (fun t ht hW => ⟨⟨(-1), (), rfl, rfl, by rw [ht]; exact hP9, hD9⟩, hS.F ht⟩) hS.2.2 dX10_refuseAct_11
def rm_k10_wasSeen : Room := { frames := 1, cells := 0, slots := 0, locals := 21 }
set_option maxHeartbeats 4000000 in
set_option maxRecDepth 100000 in
theorem k10_wasSeen (l : Launch) (dC : Nat → ClassId) (dI : Nat → Nat → Nat) (kB kI kJ kZ kC kS : ClassId) (sz : Nat) (h0 : Nat) (xa1 : Nat) (xa3 : Nat) (xa15 : Nat) (xa27 : Nat) (xa28 : Nat) (xa33 : Nat) (xa38 : Nat) (xa41 : Nat) (xa45 : Nat) (xa46 : Nat) (xa47 : Nat) (xa52 : Nat) (xa54 : Nat) (xa55 : Nat) (xa60 : Nat) (xa62 : Nat) (xa67 : Nat) (xa4 : Nat) (xa5 : Nat) (xa6 : Nat) (xa7 : Nat) (xa8 : Nat) (xa9 : Nat) (xa10 : Nat) (xa11 : Nat) (xa12 : Nat) (xa13 : Nat) (xa14 : Nat) (p0 : Int32) : Met l yX10_wasSeen wsX10_wasSeen rm_k10_wasSeen (va_Pc [.ref h0, .int p0] (fun U => U.heap.size = sz ∧ va_P (dC, dI) vwCl [(h0, .inr (10, [.ref xa1, .ref xa3, .ref xa15, .ref xa27, .ref xa28, .ref xa33, .ref xa38, .ref xa41, .ref xa45, .ref xa46, .ref xa47, .ref xa52, .ref xa54, .int 0, .ref xa55, .ref xa60, .ref xa62, .ref xa67, .int (-1)])), (xa3, .inr (2, [.ref xa4, .ref xa5, .ref xa6, .ref xa7, .ref xa8, .ref xa9, .ref xa10, .int 0, .int 0, .int 0, .int 5, .ref xa11, .ref xa12, .ref xa13, .ref xa14]))] U.heap ∧ kE dC dI kB kI kJ kZ kC kS U ∧ va_D (fun _ => True) [(h0, .inr (10, [.ref xa1, .ref xa3, .ref xa15, .ref xa27, .ref xa28, .ref xa33, .ref xa38, .ref xa41, .ref xa45, .ref xa46, .ref xa47, .ref xa52, .ref xa54, .int 0, .ref xa55, .ref xa60, .ref xa62, .ref xa67, .int (-1)])), (xa3, .inr (2, [.ref xa4, .ref xa5, .ref xa6, .ref xa7, .ref xa8, .ref xa9, .ref xa10, .int 0, .int 0, .int 0, .int 5, .ref xa11, .ref xa12, .ref xa13, .ref xa14]))])) (va_Qi (fun (r : Int32) (_ : Unit) => r = 0) (fun _ t => va_P (dC, dI) vwCl [(h0, .inr (10, [.ref xa1, .ref xa3, .ref xa15, .ref xa27, .ref xa28, .ref xa33, .ref xa38, .ref xa41, .ref xa45, .ref xa46, .ref xa47, .ref xa52, .ref xa54, .int 0, .ref xa55, .ref xa60, .ref xa62, .ref xa67, .int (-1)])), (xa3, .inr (2, [.ref xa4, .ref xa5, .ref xa6, .ref xa7, .ref xa8, .ref xa9, .ref xa10, .int 0, .int 0, .int 0, .int 5, .ref xa11, .ref xa12, .ref xa13, .ref xa14]))] t.heap ∧ va_D (va_A [(h0, .inr (10, [.ref xa1, .ref xa3, .ref xa15, .ref xa27, .ref xa28, .ref xa33, .ref xa38, .ref xa41, .ref xa45, .ref xa46, .ref xa47, .ref xa52, .ref xa54, .int 0, .ref xa55, .ref xa60, .ref xa62, .ref xa67, .int (-1)])), (xa3, .inr (2, [.ref xa4, .ref xa5, .ref xa6, .ref xa7, .ref xa8, .ref xa9, .ref xa10, .int 0, .int 0, .int 0, .int 5, .ref xa11, .ref xa12, .ref xa13, .ref xa14]))] sz) [(h0, .inr (10, [.ref xa1, .ref xa3, .ref xa15, .ref xa27, .ref xa28, .ref xa33, .ref xa38, .ref xa41, .ref xa45, .ref xa46, .ref xa47, .ref xa52, .ref xa54, .int 0, .ref xa55, .ref xa60, .ref xa62, .ref xa67, .int (-1)])), (xa3, .inr (2, [.ref xa4, .ref xa5, .ref xa6, .ref xa7, .ref xa8, .ref xa9, .ref xa10, .int 0, .int 0, .int 0, .int 5, .ref xa11, .ref xa12, .ref xa13, .ref xa14]))]) (va_A [(h0, .inr (10, [.ref xa1, .ref xa3, .ref xa15, .ref xa27, .ref xa28, .ref xa33, .ref xa38, .ref xa41, .ref xa45, .ref xa46, .ref xa47, .ref xa52, .ref xa54, .int 0, .ref xa55, .ref xa60, .ref xa62, .ref xa67, .int (-1)])), (xa3, .inr (2, [.ref xa4, .ref xa5, .ref xa6, .ref xa7, .ref xa8, .ref xa9, .ref xa10, .int 0, .int 0, .int 0, .int 5, .ref xa11, .ref xa12, .ref xa13, .ref xa14]))] sz)) 0 0 (va_A [(h0, .inr (10, [.ref xa1, .ref xa3, .ref xa15, .ref xa27, .ref xa28, .ref xa33, .ref xa38, .ref xa41, .ref xa45, .ref xa46, .ref xa47, .ref xa52, .ref xa54, .int 0, .ref xa55, .ref xa60, .ref xa62, .ref xa67, .int (-1)])), (xa3, .inr (2, [.ref xa4, .ref xa5, .ref xa6, .ref xa7, .ref xa8, .ref xa9, .ref xa10, .int 0, .int 0, .int 0, .int 5, .ref xa11, .ref xa12, .ref xa13, .ref xa14]))] sz) := by
  refine Met.ofW (cc := cX10_wasSeen) (maxL := 2) (ret := (some .boolean)) (by decide) rfl ?_
  intro p e s m args0 below meth c s₁ B hml hv
  obtain ⟨hargs, hsz, hP, hE, hD0⟩ := hv
  have hx := B.exec
  have hb := B.bytes
  have hr := B.returns
  have hts := atoms_spec (ws := wsX10_wasSeen) B.pre
  have hown : s.vm.findClass RX10 = some m.cls := findClass_of_methodNamed B.named
  have hlocks := B.notSynchronized
  have hK := hE.1
  have hin10 : ∀ w ∈ wsX100, w ∈ wsX10_wasSeen := fun _ h9 => List.mem_cons_of_mem _ (List.mem_append_left _ (List.mem_append_left _ (List.mem_append_left _ (List.mem_append_right _ h9))))
  have hin2 : ∀ w ∈ wsX20, w ∈ wsX10_wasSeen := fun _ h9 => List.mem_cons_of_mem _ (List.mem_append_left _ (List.mem_append_left _ (List.mem_append_right _ h9)))
  have hin7 : ∀ w ∈ wsX70, w ∈ wsX10_wasSeen := fun _ h9 => List.mem_cons_of_mem _ (List.mem_append_left _ (List.mem_append_right _ h9))
  have hin0 : ∀ w ∈ wsX00, w ∈ wsX10_wasSeen := fun _ h9 => List.mem_cons_of_mem _ (List.mem_append_right _ h9)
  subst hsz
  have hD := hD0.self (sz := s.heap.size)
  generalize hAe : va_A [(h0, .inr (10, [.ref xa1, .ref xa3, .ref xa15, .ref xa27, .ref xa28, .ref xa33, .ref xa38, .ref xa41, .ref xa45, .ref xa46, .ref xa47, .ref xa52, .ref xa54, .int 0, .ref xa55, .ref xa60, .ref xa62, .ref xa67, .int (-1)])), (xa3, .inr (2, [.ref xa4, .ref xa5, .ref xa6, .ref xa7, .ref xa8, .ref xa9, .ref xa10, .int 0, .int 0, .int 0, .int 5, .ref xa11, .ref xa12, .ref xa13, .ref xa14]))] s.heap.size = A at hD ⊢
  have hA : ∀ q : Nat, s.heap.size ≤ q → A q := fun q h => by rw [← hAe]; exact Or.inr h
  have hS : va_S A s.heap s.heap [] := va_S.rf
  have hP : va_P (dC, dI) vwCl [(h0, .inr (10, [.ref xa1, .ref xa3, .ref xa15, .ref xa27, .ref xa28, .ref xa33, .ref xa38, .ref xa41, .ref xa45, .ref xa46, .ref xa47, .ref xa52, .ref xa54, .int 0, .ref xa55, .ref xa60, .ref xa62, .ref xa67, .int (-1)])), (xa3, .inr (2, [.ref xa4, .ref xa5, .ref xa6, .ref xa7, .ref xa8, .ref xa9, .ref xa10, .int 0, .int 0, .int 0, .int 5, .ref xa11, .ref xa12, .ref xa13, .ref xa14]))] s.heap := hP
  have hl := lv_entry ([.ref h0, .int p0]) (n := 2) (Nat.le_of_ble_eq_true rfl)
  have hla : entryFrame m args0 2 = entryFrame m ([.ref h0, .int p0] : List Value).toArray 2 := by rw [hargs]
  rw [hla, lg_entry_eq]
  generalize (lg_sl ([.ref h0, .int p0]) ++ List.replicate (2 - (lg_sl ([.ref h0, .int p0])).length) Slot.unset).toArray = ls at hl ⊢
  have hl : lv_has ls 2 [(0, .ref h0), (1, .int p0)] := hl
  refine lv_aload_n hx hb dX10_wasSeen_0 rfl (lv_at hl 0 rfl) ?_
  refine va_get (D := (dC, dI)) (ci := 10) (v := .ref xa3) (C := RX10) (T := TX10) (N := 19) hx hb hts hin10 hown hK hP 0 rfl rfl 1 (by decide) (hts (.fieldLink RX10 19 "PathProber" "told" "LPathProber$Net;") (List.mem_of_getElem? (i := 1) (by decide +kernel))) (fun _ h9 => h9) rfl dX10_wasSeen_1 ?_
  refine lv_iload_n hx hb dX10_wasSeen_4 rfl (lv_at hl 1 rfl) ?_
  have hPc := hP.sub (ws' := [(xa3, .inr (2, [.ref xa4, .ref xa5, .ref xa6, .ref xa7, .ref xa8, .ref xa9, .ref xa10, .int 0, .int 0, .int 0, .int 5, .ref xa11, .ref xa12, .ref xa13, .ref xa14]))]) [1] rfl
  have hDc := hD.sub (ws' := [(xa3, .inr (2, [.ref xa4, .ref xa5, .ref xa6, .ref xa7, .ref xa8, .ref xa9, .ref xa10, .int 0, .int 0, .int 0, .int 5, .ref xa11, .ref xa12, .ref xa13, .ref xa14]))]) [1] (by decide) rfl
  have hFc := va_free (wc := [(xa3, .inr (2, [.ref xa4, .ref xa5, .ref xa6, .ref xa7, .ref xa8, .ref xa9, .ref xa10, .int 0, .int 0, .int 0, .int 5, .ref xa11, .ref xa12, .ref xa13, .ref xa14]))]) hD hS hA [1] rfl
  refine va_calli (va_runV (As := [.int p0]) (rest := []) ⟨hx, hb, hml, hown, hts⟩ (k2_hasAddress l dC dI kB kI kJ kZ kC kS s.heap.size xa3 xa4 xa5 xa6 xa7 xa8 xa9 xa10 xa11 xa12 xa13 xa14 p0) (cwV 1 hts gX10_wasSeen_X2_hasAddress rfl rfl rfl (by decide +kernel) ⟨Nat.le_of_ble_eq_true rfl, Nat.le_of_ble_eq_true rfl⟩) ⟨fun a U g mk q => by obtain ⟨q0, q1, qP, qE, qD⟩ := q; exact ⟨q0, q1, qP, kE_call qE, qD⟩, va_recv hK hP (ci := 2) (q0 := 1) rfl rfl, fun U hU hW => ⟨rfl, by rw [hU], by rw [hU]; exact hPc, kE_warm hW hE, hDc.weaken (fun _ _ _ _ => trivial)⟩⟩ rfl rfl hl.1 rfl (lv_room (Nat.le_of_ble_eq_true rfl)) dX10_wasSeen_5 ⟨Nat.le_of_ble_eq_true rfl, Nat.le_of_ble_eq_true rfl⟩) hS (fun q _ h => hFc q h) hFc (fun r1 u t H1 locs ht hvm w2 hB hz1 hk1 hS => ?_)
  obtain ⟨hP1, hD1⟩ := hB
  rw [ht] at hP1
  try dsimp only at w2
  obtain ⟨hP, hD⟩ := va_join (wr := [(h0, .inr (10, [.ref xa1, .ref xa3, .ref xa15, .ref xa27, .ref xa28, .ref xa33, .ref xa38, .ref xa41, .ref xa45, .ref xa46, .ref xa47, .ref xa52, .ref xa54, .int 0, .ref xa55, .ref xa60, .ref xa62, .ref xa67, .int (-1)]))]) (w1 := [(xa3, .inr (2, [.ref xa4, .ref xa5, .ref xa6, .ref xa7, .ref xa8, .ref xa9, .ref xa10, .int 0, .int 0, .int 0, .int 5, .ref xa11, .ref xa12, .ref xa13, .ref xa14]))]) hP hD [1] [0] rfl rfl (by decide) (by decide) hk1 hFc hP1 hD1
  generalize H1 = H at hP hS ⊢
  have hP : va_P (dC, dI) vwCl [(h0, .inr (10, [.ref xa1, .ref xa3, .ref xa15, .ref xa27, .ref xa28, .ref xa33, .ref xa38, .ref xa41, .ref xa45, .ref xa46, .ref xa47, .ref xa52, .ref xa54, .int 0, .ref xa55, .ref xa60, .ref xa62, .ref xa67, .int (-1)])), (xa3, .inr (2, [.ref xa4, .ref xa5, .ref xa6, .ref xa7, .ref xa8, .ref xa9, .ref xa10, .int 0, .int 0, .int 0, .int 5, .ref xa11, .ref xa12, .ref xa13, .ref xa14]))] H := hP
  have hD : va_D A [(h0, .inr (10, [.ref xa1, .ref xa3, .ref xa15, .ref xa27, .ref xa28, .ref xa33, .ref xa38, .ref xa41, .ref xa45, .ref xa46, .ref xa47, .ref xa52, .ref xa54, .int 0, .ref xa55, .ref xa60, .ref xa62, .ref xa67, .int (-1)])), (xa3, .inr (2, [.ref xa4, .ref xa5, .ref xa6, .ref xa7, .ref xa8, .ref xa9, .ref xa10, .int 0, .int 0, .int 0, .int 5, .ref xa11, .ref xa12, .ref xa13, .ref xa14]))] := hD
  refine W.widen (k := 0) (n := 0) (Nat.le_of_ble_eq_true rfl) (Nat.le_of_ble_eq_true rfl) ?_
  subst w2
  refine lv_if_eq (tgt := 30) hx hb dX10_wasSeen_8 (by decide) (fun _ => ?_) (fun c9 => absurd (by decide) c9)
  refine lv_iconst (v := 0) hx hb dX10_wasSeen_30 (by decide) ?_
  have hP9 := hP.sub (ws' := [(h0, .inr (10, [.ref xa1, .ref xa3, .ref xa15, .ref xa27, .ref xa28, .ref xa33, .ref xa38, .ref xa41, .ref xa45, .ref xa46, .ref xa47, .ref xa52, .ref xa54, .int 0, .ref xa55, .ref xa60, .ref xa62, .ref xa67, .int (-1)])), (xa3, .inr (2, [.ref xa4, .ref xa5, .ref xa6, .ref xa7, .ref xa8, .ref xa9, .ref xa10, .int 0, .int 0, .int 0, .int 5, .ref xa11, .ref xa12, .ref xa13, .ref xa14]))]) [0, 1] rfl
  have hD9 := hD.sub (ws' := [(h0, .inr (10, [.ref xa1, .ref xa3, .ref xa15, .ref xa27, .ref xa28, .ref xa33, .ref xa38, .ref xa41, .ref xa45, .ref xa46, .ref xa47, .ref xa52, .ref xa54, .int 0, .ref xa55, .ref xa60, .ref xa62, .ref xa67, .int (-1)])), (xa3, .inr (2, [.ref xa4, .ref xa5, .ref xa6, .ref xa7, .ref xa8, .ref xa9, .ref xa10, .int 0, .int 0, .int 0, .int 5, .ref xa11, .ref xa12, .ref xa13, .ref xa14]))]) [0, 1] (by decide) rfl
  exact W.zret (v := 0) (ty := .boolean) hx hb hr rfl (fun t ht hW => ⟨⟨0, (), rfl, rfl, by rw [ht]; exact hP9, hD9⟩, hS.F ht⟩) hS.2.2 dX10_wasSeen_31
def rm_k10_fault : Room := { frames := 0, cells := 0, slots := 0, locals := 0 }
set_option maxHeartbeats 4000000 in
set_option maxRecDepth 100000 in
theorem k10_fault (l : Launch) (dC : Nat → ClassId) (dI : Nat → Nat → Nat) (kB kI kJ kZ kC kS : ClassId) (sz : Nat) (h0 : Nat) (xa1 : Nat) (xa3 : Nat) (xa15 : Nat) (xa27 : Nat) (xa28 : Nat) (xa33 : Nat) (xa38 : Nat) (xa41 : Nat) (xa45 : Nat) (xa46 : Nat) (xa47 : Nat) (xa52 : Nat) (xa54 : Nat) (xa55 : Nat) (xa60 : Nat) (xa62 : Nat) (xa67 : Nat) : Met l yX10_fault wsX10_fault rm_k10_fault (va_Pc [.ref h0] (fun U => U.heap.size = sz ∧ va_P (dC, dI) vwCl [(h0, .inr (10, [.ref xa1, .ref xa3, .ref xa15, .ref xa27, .ref xa28, .ref xa33, .ref xa38, .ref xa41, .ref xa45, .ref xa46, .ref xa47, .ref xa52, .ref xa54, .int 0, .ref xa55, .ref xa60, .ref xa62, .ref xa67, .int (-1)]))] U.heap ∧ kE dC dI kB kI kJ kZ kC kS U ∧ va_D (fun _ => True) [(h0, .inr (10, [.ref xa1, .ref xa3, .ref xa15, .ref xa27, .ref xa28, .ref xa33, .ref xa38, .ref xa41, .ref xa45, .ref xa46, .ref xa47, .ref xa52, .ref xa54, .int 0, .ref xa55, .ref xa60, .ref xa62, .ref xa67, .int (-1)]))])) (va_Qi (fun (r : Int32) (_ : Unit) => r = -1) (fun _ t => va_P (dC, dI) vwCl [] t.heap ∧ va_D (va_A [(h0, .inr (10, [.ref xa1, .ref xa3, .ref xa15, .ref xa27, .ref xa28, .ref xa33, .ref xa38, .ref xa41, .ref xa45, .ref xa46, .ref xa47, .ref xa52, .ref xa54, .int 0, .ref xa55, .ref xa60, .ref xa62, .ref xa67, .int (-1)]))] sz) []) (va_A [(h0, .inr (10, [.ref xa1, .ref xa3, .ref xa15, .ref xa27, .ref xa28, .ref xa33, .ref xa38, .ref xa41, .ref xa45, .ref xa46, .ref xa47, .ref xa52, .ref xa54, .int 0, .ref xa55, .ref xa60, .ref xa62, .ref xa67, .int (-1)]))] sz)) 0 0 (va_A [(h0, .inr (10, [.ref xa1, .ref xa3, .ref xa15, .ref xa27, .ref xa28, .ref xa33, .ref xa38, .ref xa41, .ref xa45, .ref xa46, .ref xa47, .ref xa52, .ref xa54, .int 0, .ref xa55, .ref xa60, .ref xa62, .ref xa67, .int (-1)]))] sz) := by
  refine Met.ofW (cc := cX10_fault) (maxL := 1) (ret := (some .int)) (by decide) rfl ?_
  intro p e s m args0 below meth c s₁ B hml hv
  obtain ⟨hargs, hsz, hP, hE, hD0⟩ := hv
  have hx := B.exec
  have hb := B.bytes
  have hr := B.returns
  have hts := atoms_spec (ws := wsX10_fault) B.pre
  have hown : s.vm.findClass RX10 = some m.cls := findClass_of_methodNamed B.named
  have hlocks := B.notSynchronized
  have hK := hE.1
  have hin10 : ∀ w ∈ wsX100, w ∈ wsX10_fault := fun _ h9 => List.mem_cons_of_mem _ (List.mem_append_right _ h9)
  subst hsz
  have hD := hD0.self (sz := s.heap.size)
  generalize hAe : va_A [(h0, .inr (10, [.ref xa1, .ref xa3, .ref xa15, .ref xa27, .ref xa28, .ref xa33, .ref xa38, .ref xa41, .ref xa45, .ref xa46, .ref xa47, .ref xa52, .ref xa54, .int 0, .ref xa55, .ref xa60, .ref xa62, .ref xa67, .int (-1)]))] s.heap.size = A at hD ⊢
  have hA : ∀ q : Nat, s.heap.size ≤ q → A q := fun q h => by rw [← hAe]; exact Or.inr h
  have hS : va_S A s.heap s.heap [] := va_S.rf
  have hP : va_P (dC, dI) vwCl [(h0, .inr (10, [.ref xa1, .ref xa3, .ref xa15, .ref xa27, .ref xa28, .ref xa33, .ref xa38, .ref xa41, .ref xa45, .ref xa46, .ref xa47, .ref xa52, .ref xa54, .int 0, .ref xa55, .ref xa60, .ref xa62, .ref xa67, .int (-1)]))] s.heap := hP
  have hl := lv_entry ([.ref h0]) (n := 1) (Nat.le_of_ble_eq_true rfl)
  have hla : entryFrame m args0 1 = entryFrame m ([.ref h0] : List Value).toArray 1 := by rw [hargs]
  rw [hla, lg_entry_eq]
  generalize (lg_sl ([.ref h0]) ++ List.replicate (1 - (lg_sl ([.ref h0])).length) Slot.unset).toArray = ls at hl ⊢
  have hl : lv_has ls 1 [(0, .ref h0)] := hl
  refine lv_aload_n hx hb dX10_fault_0 rfl (lv_at hl 0 rfl) ?_
  refine va_get (D := (dC, dI)) (ci := 10) (v := .int (-1)) (C := RX10) (T := TX10) (N := 19) hx hb hts hin10 hown hK hP 0 rfl rfl 18 (by decide) (hts (.fieldLink RX10 113 "PathProber" "faultPlace" "I") (List.mem_of_getElem? (i := 1) (by decide +kernel))) (fun _ h9 => h9) rfl dX10_fault_1 ?_
  have hP9 := hP.sub (ws' := []) [] rfl
  have hD9 := hD.sub (ws' := []) [] (by decide) rfl
  exact W.iret (v := (-1)) hx hb hr (fun t ht hW => ⟨⟨(-1), (), rfl, rfl, by rw [ht]; exact hP9, hD9⟩, hS.F ht⟩) hS.2.2 dX10_fault_4
def rm_k10_router : Room := { frames := 7, cells := 1, slots := 6, locals := 103 }
set_option maxHeartbeats 4000000 in
set_option maxRecDepth 100000 in
theorem k10_router (l : Launch) (hst : l.stackTraces = false) (dC : Nat → ClassId) (dI : Nat → Nat → Nat) (kB kI kJ kZ kC kS : ClassId) (sz : Nat) (h0 : Nat) (xa1 : Nat) (xa3 : Nat) (xa15 : Nat) (xa27 : Nat) (xa28 : Nat) (xa33 : Nat) (xa38 : Nat) (xa41 : Nat) (xa45 : Nat) (xa46 : Nat) (xa47 : Nat) (xa52 : Nat) (xa54 : Nat) (xa55 : Nat) (xa60 : Nat) (xa62 : Nat) (xa67 : Nat) (xa4 : Nat) (xa5 : Nat) (xa6 : Nat) (xa7 : Nat) (xa8 : Nat) (xa9 : Nat) (xa10 : Nat) (xa11 : Nat) (xa12 : Nat) (xa13 : Nat) (xa14 : Nat) (p0 : Int32) (p1 : Int32) : vx_Met l yX10_router wsX10_router rm_k10_router (va_Pc [.ref h0, .int p0, .int p1] (fun U => U.heap.size = sz ∧ va_P (dC, dI) vwCl [(h0, .inr (10, [.ref xa1, .ref xa3, .ref xa15, .ref xa27, .ref xa28, .ref xa33, .ref xa38, .ref xa41, .ref xa45, .ref xa46, .ref xa47, .ref xa52, .ref xa54, .int 0, .ref xa55, .ref xa60, .ref xa62, .ref xa67, .int (-1)])), (xa3, .inr (2, [.ref xa4, .ref xa5, .ref xa6, .ref xa7, .ref xa8, .ref xa9, .ref xa10, .int 0, .int 0, .int 0, .int 5, .ref xa11, .ref xa12, .ref xa13, .ref xa14]))] U.heap ∧ kE dC dI kB kI kJ kZ kC kS U ∧ va_D (fun _ => True) [(h0, .inr (10, [.ref xa1, .ref xa3, .ref xa15, .ref xa27, .ref xa28, .ref xa33, .ref xa38, .ref xa41, .ref xa45, .ref xa46, .ref xa47, .ref xa52, .ref xa54, .int 0, .ref xa55, .ref xa60, .ref xa62, .ref xa67, .int (-1)])), (xa3, .inr (2, [.ref xa4, .ref xa5, .ref xa6, .ref xa7, .ref xa8, .ref xa9, .ref xa10, .int 0, .int 0, .int 0, .int 5, .ref xa11, .ref xa12, .ref xa13, .ref xa14]))] ∧ kX U ∧ kT (va_A [(h0, .inr (10, [.ref xa1, .ref xa3, .ref xa15, .ref xa27, .ref xa28, .ref xa33, .ref xa38, .ref xa41, .ref xa45, .ref xa46, .ref xa47, .ref xa52, .ref xa54, .int 0, .ref xa55, .ref xa60, .ref xa62, .ref xa67, .int (-1)])), (xa3, .inr (2, [.ref xa4, .ref xa5, .ref xa6, .ref xa7, .ref xa8, .ref xa9, .ref xa10, .int 0, .int 0, .int 0, .int 5, .ref xa11, .ref xa12, .ref xa13, .ref xa14]))] sz) U)) (va_Qi (fun (r : Int32) (_ : Unit) => False) (fun _ t => va_P (dC, dI) vwCl [] t.heap ∧ va_D (va_A [(h0, .inr (10, [.ref xa1, .ref xa3, .ref xa15, .ref xa27, .ref xa28, .ref xa33, .ref xa38, .ref xa41, .ref xa45, .ref xa46, .ref xa47, .ref xa52, .ref xa54, .int 0, .ref xa55, .ref xa60, .ref xa62, .ref xa67, .int (-1)])), (xa3, .inr (2, [.ref xa4, .ref xa5, .ref xa6, .ref xa7, .ref xa8, .ref xa9, .ref xa10, .int 0, .int 0, .int 0, .int 5, .ref xa11, .ref xa12, .ref xa13, .ref xa14]))] sz) []) (va_A [(h0, .inr (10, [.ref xa1, .ref xa3, .ref xa15, .ref xa27, .ref xa28, .ref xa33, .ref xa38, .ref xa41, .ref xa45, .ref xa46, .ref xa47, .ref xa52, .ref xa54, .int 0, .ref xa55, .ref xa60, .ref xa62, .ref xa67, .int (-1)])), (xa3, .inr (2, [.ref xa4, .ref xa5, .ref xa6, .ref xa7, .ref xa8, .ref xa9, .ref xa10, .int 0, .int 0, .int 0, .int 5, .ref xa11, .ref xa12, .ref xa13, .ref xa14]))] sz)) (vx_X (fun (_ : Unit) => True) (fun (E : String) (_ : Unit) (_ : State) => E = "java/util/NoSuchElementException") (va_A [(h0, .inr (10, [.ref xa1, .ref xa3, .ref xa15, .ref xa27, .ref xa28, .ref xa33, .ref xa38, .ref xa41, .ref xa45, .ref xa46, .ref xa47, .ref xa52, .ref xa54, .int 0, .ref xa55, .ref xa60, .ref xa62, .ref xa67, .int (-1)])), (xa3, .inr (2, [.ref xa4, .ref xa5, .ref xa6, .ref xa7, .ref xa8, .ref xa9, .ref xa10, .int 0, .int 0, .int 0, .int 5, .ref xa11, .ref xa12, .ref xa13, .ref xa14]))] sz)) 1 6 (va_A [(h0, .inr (10, [.ref xa1, .ref xa3, .ref xa15, .ref xa27, .ref xa28, .ref xa33, .ref xa38, .ref xa41, .ref xa45, .ref xa46, .ref xa47, .ref xa52, .ref xa54, .int 0, .ref xa55, .ref xa60, .ref xa62, .ref xa67, .int (-1)])), (xa3, .inr (2, [.ref xa4, .ref xa5, .ref xa6, .ref xa7, .ref xa8, .ref xa9, .ref xa10, .int 0, .int 0, .int 0, .int 5, .ref xa11, .ref xa12, .ref xa13, .ref xa14]))] sz) := by
  refine vx_ofW (cc := cX10_router) (maxL := 3) (ret := (some .int)) (by decide) rfl ?_
  intro p e s m args0 below meth c s₁ B hml hexT hv
  obtain ⟨hargs, hsz, hP, hE, hD0, hXs, hT⟩ := hv
  have hx := B.exec
  have hb := B.bytes
  have hr := B.returns
  have hts := atoms_spec (ws := wsX10_router) B.pre
  have hown : s.vm.findClass RX10 = some m.cls := findClass_of_methodNamed B.named
  have hlocks := B.notSynchronized
  have hK := hE.1
  have hin10 : ∀ w ∈ wsX100, w ∈ wsX10_router := fun _ h9 => List.mem_cons_of_mem _ (List.mem_append_left _ (List.mem_append_left _ (List.mem_append_left _ (List.mem_append_right _ h9))))
  have hin2 : ∀ w ∈ wsX20, w ∈ wsX10_router := fun _ h9 => List.mem_cons_of_mem _ (List.mem_append_left _ (List.mem_append_left _ (List.mem_append_right _ h9)))
  have hin0 : ∀ w ∈ wsX00, w ∈ wsX10_router := fun _ h9 => List.mem_cons_of_mem _ (List.mem_append_left _ (List.mem_append_right _ h9))
  subst hsz
  have hD := hD0.self (sz := s.heap.size)
  generalize hAe : va_A [(h0, .inr (10, [.ref xa1, .ref xa3, .ref xa15, .ref xa27, .ref xa28, .ref xa33, .ref xa38, .ref xa41, .ref xa45, .ref xa46, .ref xa47, .ref xa52, .ref xa54, .int 0, .ref xa55, .ref xa60, .ref xa62, .ref xa67, .int (-1)])), (xa3, .inr (2, [.ref xa4, .ref xa5, .ref xa6, .ref xa7, .ref xa8, .ref xa9, .ref xa10, .int 0, .int 0, .int 0, .int 5, .ref xa11, .ref xa12, .ref xa13, .ref xa14]))] s.heap.size = A at hD hT ⊢
  have hA : ∀ q : Nat, s.heap.size ≤ q → A q := fun q h => by rw [← hAe]; exact Or.inr h
  have hS : va_S A s.heap s.heap [] := va_S.rf
  have hP : va_P (dC, dI) vwCl [(h0, .inr (10, [.ref xa1, .ref xa3, .ref xa15, .ref xa27, .ref xa28, .ref xa33, .ref xa38, .ref xa41, .ref xa45, .ref xa46, .ref xa47, .ref xa52, .ref xa54, .int 0, .ref xa55, .ref xa60, .ref xa62, .ref xa67, .int (-1)])), (xa3, .inr (2, [.ref xa4, .ref xa5, .ref xa6, .ref xa7, .ref xa8, .ref xa9, .ref xa10, .int 0, .int 0, .int 0, .int 5, .ref xa11, .ref xa12, .ref xa13, .ref xa14]))] s.heap := hP
  have hl := lv_entry ([.ref h0, .int p0, .int p1]) (n := 3) (Nat.le_of_ble_eq_true rfl)
  have hla : entryFrame m args0 3 = entryFrame m ([.ref h0, .int p0, .int p1] : List Value).toArray 3 := by rw [hargs]
  rw [hla, lg_entry_eq]
  generalize (lg_sl ([.ref h0, .int p0, .int p1]) ++ List.replicate (3 - (lg_sl ([.ref h0, .int p0, .int p1])).length) Slot.unset).toArray = ls at hl ⊢
  have hl : lv_has ls 3 [(0, .ref h0), (1, .int p0), (2, .int p1)] := hl
  refine lv_aload_n hx hb dX10_router_0 rfl (lv_at hl 0 rfl) ?_
  refine lv_iload_n hx hb dX10_router_1 rfl (lv_at hl 1 rfl) ?_
  have hPc := hP.sub (ws' := [(h0, .inr (10, [.ref xa1, .ref xa3, .ref xa15, .ref xa27, .ref xa28, .ref xa33, .ref xa38, .ref xa41, .ref xa45, .ref xa46, .ref xa47, .ref xa52, .ref xa54, .int 0, .ref xa55, .ref xa60, .ref xa62, .ref xa67, .int (-1)])), (xa3, .inr (2, [.ref xa4, .ref xa5, .ref xa6, .ref xa7, .ref xa8, .ref xa9, .ref xa10, .int 0, .int 0, .int 0, .int 5, .ref xa11, .ref xa12, .ref xa13, .ref xa14]))]) [0, 1] rfl
  have hDc := hD.sub (ws' := [(h0, .inr (10, [.ref xa1, .ref xa3, .ref xa15, .ref xa27, .ref xa28, .ref xa33, .ref xa38, .ref xa41, .ref xa45, .ref xa46, .ref xa47, .ref xa52, .ref xa54, .int 0, .ref xa55, .ref xa60, .ref xa62, .ref xa67, .int (-1)])), (xa3, .inr (2, [.ref xa4, .ref xa5, .ref xa6, .ref xa7, .ref xa8, .ref xa9, .ref xa10, .int 0, .int 0, .int 0, .int 5, .ref xa11, .ref xa12, .ref xa13, .ref xa14]))]) [0, 1] (by decide) rfl
  have hFc := va_free (wc := [(h0, .inr (10, [.ref xa1, .ref xa3, .ref xa15, .ref xa27, .ref xa28, .ref xa33, .ref xa38, .ref xa41, .ref xa45, .ref xa46, .ref xa47, .ref xa52, .ref xa54, .int 0, .ref xa55, .ref xa60, .ref xa62, .ref xa67, .int (-1)])), (xa3, .inr (2, [.ref xa4, .ref xa5, .ref xa6, .ref xa7, .ref xa8, .ref xa9, .ref xa10, .int 0, .int 0, .int 0, .int 5, .ref xa11, .ref xa12, .ref xa13, .ref xa14]))]) hD hS hA [0, 1] rfl
  refine vx_callv (vx_runV (As := [.int p0]) (rest := []) ⟨hx, hb, hml, hown, hts⟩ (k10_mustBeRouter l hst dC dI kB kI kJ kZ kC kS s.heap.size h0 xa1 xa3 xa15 xa27 xa28 xa33 xa38 xa41 xa45 xa46 xa47 xa52 xa54 xa55 xa60 xa62 xa67 xa4 xa5 xa6 xa7 xa8 xa9 xa10 xa11 xa12 xa13 xa14 p0) (cwV 1 hts gX10_router_X10_mustBeRouter rfl rfl rfl (by decide +kernel) ⟨Nat.le_of_ble_eq_true rfl, Nat.le_of_ble_eq_true rfl⟩) ⟨fun a U g mk q => by obtain ⟨q0, q1, qP, qE, qD, qX, qT⟩ := q; exact ⟨q0, q1, qP, kE_call qE, qD, kX_call qX, kT_call qT⟩, va_recv hK hP (ci := 10) (q0 := 0) rfl rfl, fun U hU hW => ⟨rfl, by rw [hU], by rw [hU]; exact hPc, kE_warm hW hE, hDc.weaken (fun _ _ _ _ => trivial), kX_warm hW hXs, kT_at hT hS hFc hW hU⟩⟩ rfl rfl hl.1 rfl (lv_room (Nat.le_of_ble_eq_true rfl)) dX10_router_2 ⟨Nat.le_of_ble_eq_true rfl, Nat.le_of_ble_eq_true rfl⟩) hS (fun q _ h => hFc q h) hFc (fun q _ h => hFc q h) (fun E ce q9 u t H1 locs ht hvm hpx hBX hz1 hk1 hS hc9 hv9 hcl9 => ?_) (fun u t H1 locs ht hvm w2 hB hz1 hk1 hS => ?_)
  · exact vx_out (fun x h9 => (hexT x h9).elim) hlocks hc9 hv9 hcl9 (fun t9 ht9 hvm9 => ⟨(), trivial, hBX, hS.F ht9⟩) hS.2.2 (Nat.le_of_ble_eq_true rfl) (Nat.le_of_ble_eq_true rfl)
  · exact w2.elim
def rm_k10_link : Room := { frames := 7, cells := 1, slots := 6, locals := 103 }
set_option maxHeartbeats 4000000 in
set_option maxRecDepth 100000 in
theorem k10_link (l : Launch) (hst : l.stackTraces = false) (dC : Nat → ClassId) (dI : Nat → Nat → Nat) (kB kI kJ kZ kC kS : ClassId) (sz : Nat) (h0 : Nat) (xa1 : Nat) (xa3 : Nat) (xa15 : Nat) (xa27 : Nat) (xa28 : Nat) (xa33 : Nat) (xa38 : Nat) (xa41 : Nat) (xa45 : Nat) (xa46 : Nat) (xa47 : Nat) (xa52 : Nat) (xa54 : Nat) (xa55 : Nat) (xa60 : Nat) (xa62 : Nat) (xa67 : Nat) (xa4 : Nat) (xa5 : Nat) (xa6 : Nat) (xa7 : Nat) (xa8 : Nat) (xa9 : Nat) (xa10 : Nat) (xa11 : Nat) (xa12 : Nat) (xa13 : Nat) (xa14 : Nat) (p0 : Int32) (p1 : Int32) : vx_Met l yX10_link wsX10_link rm_k10_link (va_Pc [.ref h0, .int p0, .int p1] (fun U => U.heap.size = sz ∧ va_P (dC, dI) vwCl [(h0, .inr (10, [.ref xa1, .ref xa3, .ref xa15, .ref xa27, .ref xa28, .ref xa33, .ref xa38, .ref xa41, .ref xa45, .ref xa46, .ref xa47, .ref xa52, .ref xa54, .int 0, .ref xa55, .ref xa60, .ref xa62, .ref xa67, .int (-1)])), (xa3, .inr (2, [.ref xa4, .ref xa5, .ref xa6, .ref xa7, .ref xa8, .ref xa9, .ref xa10, .int 0, .int 0, .int 0, .int 5, .ref xa11, .ref xa12, .ref xa13, .ref xa14]))] U.heap ∧ kE dC dI kB kI kJ kZ kC kS U ∧ va_D (fun _ => True) [(h0, .inr (10, [.ref xa1, .ref xa3, .ref xa15, .ref xa27, .ref xa28, .ref xa33, .ref xa38, .ref xa41, .ref xa45, .ref xa46, .ref xa47, .ref xa52, .ref xa54, .int 0, .ref xa55, .ref xa60, .ref xa62, .ref xa67, .int (-1)])), (xa3, .inr (2, [.ref xa4, .ref xa5, .ref xa6, .ref xa7, .ref xa8, .ref xa9, .ref xa10, .int 0, .int 0, .int 0, .int 5, .ref xa11, .ref xa12, .ref xa13, .ref xa14]))] ∧ kX U ∧ kT (va_A [(h0, .inr (10, [.ref xa1, .ref xa3, .ref xa15, .ref xa27, .ref xa28, .ref xa33, .ref xa38, .ref xa41, .ref xa45, .ref xa46, .ref xa47, .ref xa52, .ref xa54, .int 0, .ref xa55, .ref xa60, .ref xa62, .ref xa67, .int (-1)])), (xa3, .inr (2, [.ref xa4, .ref xa5, .ref xa6, .ref xa7, .ref xa8, .ref xa9, .ref xa10, .int 0, .int 0, .int 0, .int 5, .ref xa11, .ref xa12, .ref xa13, .ref xa14]))] sz) U)) (va_Qi (fun (r : Int32) (_ : Unit) => False) (fun _ t => va_P (dC, dI) vwCl [] t.heap ∧ va_D (va_A [(h0, .inr (10, [.ref xa1, .ref xa3, .ref xa15, .ref xa27, .ref xa28, .ref xa33, .ref xa38, .ref xa41, .ref xa45, .ref xa46, .ref xa47, .ref xa52, .ref xa54, .int 0, .ref xa55, .ref xa60, .ref xa62, .ref xa67, .int (-1)])), (xa3, .inr (2, [.ref xa4, .ref xa5, .ref xa6, .ref xa7, .ref xa8, .ref xa9, .ref xa10, .int 0, .int 0, .int 0, .int 5, .ref xa11, .ref xa12, .ref xa13, .ref xa14]))] sz) []) (va_A [(h0, .inr (10, [.ref xa1, .ref xa3, .ref xa15, .ref xa27, .ref xa28, .ref xa33, .ref xa38, .ref xa41, .ref xa45, .ref xa46, .ref xa47, .ref xa52, .ref xa54, .int 0, .ref xa55, .ref xa60, .ref xa62, .ref xa67, .int (-1)])), (xa3, .inr (2, [.ref xa4, .ref xa5, .ref xa6, .ref xa7, .ref xa8, .ref xa9, .ref xa10, .int 0, .int 0, .int 0, .int 5, .ref xa11, .ref xa12, .ref xa13, .ref xa14]))] sz)) (vx_X (fun (_ : Unit) => True) (fun (E : String) (_ : Unit) (_ : State) => E = "java/util/NoSuchElementException") (va_A [(h0, .inr (10, [.ref xa1, .ref xa3, .ref xa15, .ref xa27, .ref xa28, .ref xa33, .ref xa38, .ref xa41, .ref xa45, .ref xa46, .ref xa47, .ref xa52, .ref xa54, .int 0, .ref xa55, .ref xa60, .ref xa62, .ref xa67, .int (-1)])), (xa3, .inr (2, [.ref xa4, .ref xa5, .ref xa6, .ref xa7, .ref xa8, .ref xa9, .ref xa10, .int 0, .int 0, .int 0, .int 5, .ref xa11, .ref xa12, .ref xa13, .ref xa14]))] sz)) 1 6 (va_A [(h0, .inr (10, [.ref xa1, .ref xa3, .ref xa15, .ref xa27, .ref xa28, .ref xa33, .ref xa38, .ref xa41, .ref xa45, .ref xa46, .ref xa47, .ref xa52, .ref xa54, .int 0, .ref xa55, .ref xa60, .ref xa62, .ref xa67, .int (-1)])), (xa3, .inr (2, [.ref xa4, .ref xa5, .ref xa6, .ref xa7, .ref xa8, .ref xa9, .ref xa10, .int 0, .int 0, .int 0, .int 5, .ref xa11, .ref xa12, .ref xa13, .ref xa14]))] sz) := by
  refine vx_ofW (cc := cX10_link) (maxL := 3) (ret := (some .int)) (by decide) rfl ?_
  intro p e s m args0 below meth c s₁ B hml hexT hv
  obtain ⟨hargs, hsz, hP, hE, hD0, hXs, hT⟩ := hv
  have hx := B.exec
  have hb := B.bytes
  have hr := B.returns
  have hts := atoms_spec (ws := wsX10_link) B.pre
  have hown : s.vm.findClass RX10 = some m.cls := findClass_of_methodNamed B.named
  have hlocks := B.notSynchronized
  have hK := hE.1
  have hin10 : ∀ w ∈ wsX100, w ∈ wsX10_link := fun _ h9 => List.mem_cons_of_mem _ (List.mem_append_left _ (List.mem_append_left _ (List.mem_append_right _ h9)))
  have hin2 : ∀ w ∈ wsX20, w ∈ wsX10_link := fun _ h9 => List.mem_cons_of_mem _ (List.mem_append_left _ (List.mem_append_right _ h9))
  subst hsz
  have hD := hD0.self (sz := s.heap.size)
  generalize hAe : va_A [(h0, .inr (10, [.ref xa1, .ref xa3, .ref xa15, .ref xa27, .ref xa28, .ref xa33, .ref xa38, .ref xa41, .ref xa45, .ref xa46, .ref xa47, .ref xa52, .ref xa54, .int 0, .ref xa55, .ref xa60, .ref xa62, .ref xa67, .int (-1)])), (xa3, .inr (2, [.ref xa4, .ref xa5, .ref xa6, .ref xa7, .ref xa8, .ref xa9, .ref xa10, .int 0, .int 0, .int 0, .int 5, .ref xa11, .ref xa12, .ref xa13, .ref xa14]))] s.heap.size = A at hD hT ⊢
  have hA : ∀ q : Nat, s.heap.size ≤ q → A q := fun q h => by rw [← hAe]; exact Or.inr h
  have hS : va_S A s.heap s.heap [] := va_S.rf
  have hP : va_P (dC, dI) vwCl [(h0, .inr (10, [.ref xa1, .ref xa3, .ref xa15, .ref xa27, .ref xa28, .ref xa33, .ref xa38, .ref xa41, .ref xa45, .ref xa46, .ref xa47, .ref xa52, .ref xa54, .int 0, .ref xa55, .ref xa60, .ref xa62, .ref xa67, .int (-1)])), (xa3, .inr (2, [.ref xa4, .ref xa5, .ref xa6, .ref xa7, .ref xa8, .ref xa9, .ref xa10, .int 0, .int 0, .int 0, .int 5, .ref xa11, .ref xa12, .ref xa13, .ref xa14]))] s.heap := hP
  have hl := lv_entry ([.ref h0, .int p0, .int p1]) (n := 3) (Nat.le_of_ble_eq_true rfl)
  have hla : entryFrame m args0 3 = entryFrame m ([.ref h0, .int p0, .int p1] : List Value).toArray 3 := by rw [hargs]
  rw [hla, lg_entry_eq]
  generalize (lg_sl ([.ref h0, .int p0, .int p1]) ++ List.replicate (3 - (lg_sl ([.ref h0, .int p0, .int p1])).length) Slot.unset).toArray = ls at hl ⊢
  have hl : lv_has ls 3 [(0, .ref h0), (1, .int p0), (2, .int p1)] := hl
  refine lv_aload_n hx hb dX10_link_0 rfl (lv_at hl 0 rfl) ?_
  refine lv_iload_n hx hb dX10_link_1 rfl (lv_at hl 1 rfl) ?_
  have hPc := hP.sub (ws' := [(h0, .inr (10, [.ref xa1, .ref xa3, .ref xa15, .ref xa27, .ref xa28, .ref xa33, .ref xa38, .ref xa41, .ref xa45, .ref xa46, .ref xa47, .ref xa52, .ref xa54, .int 0, .ref xa55, .ref xa60, .ref xa62, .ref xa67, .int (-1)])), (xa3, .inr (2, [.ref xa4, .ref xa5, .ref xa6, .ref xa7, .ref xa8, .ref xa9, .ref xa10, .int 0, .int 0, .int 0, .int 5, .ref xa11, .ref xa12, .ref xa13, .ref xa14]))]) [0, 1] rfl
  have hDc := hD.sub (ws' := [(h0, .inr (10, [.ref xa1, .ref xa3, .ref xa15, .ref xa27, .ref xa28, .ref xa33, .ref xa38, .ref xa41, .ref xa45, .ref xa46, .ref xa47, .ref xa52, .ref xa54, .int 0, .ref xa55, .ref xa60, .ref xa62, .ref xa67, .int (-1)])), (xa3, .inr (2, [.ref xa4, .ref xa5, .ref xa6, .ref xa7, .ref xa8, .ref xa9, .ref xa10, .int 0, .int 0, .int 0, .int 5, .ref xa11, .ref xa12, .ref xa13, .ref xa14]))]) [0, 1] (by decide) rfl
  have hFc := va_free (wc := [(h0, .inr (10, [.ref xa1, .ref xa3, .ref xa15, .ref xa27, .ref xa28, .ref xa33, .ref xa38, .ref xa41, .ref xa45, .ref xa46, .ref xa47, .ref xa52, .ref xa54, .int 0, .ref xa55, .ref xa60, .ref xa62, .ref xa67, .int (-1)])), (xa3, .inr (2, [.ref xa4, .ref xa5, .ref xa6, .ref xa7, .ref xa8, .ref xa9, .ref xa10, .int 0, .int 0, .int 0, .int 5, .ref xa11, .ref xa12, .ref xa13, .ref xa14]))]) hD hS hA [0, 1] rfl
  refine vx_callv (vx_runV (As := [.int p0]) (rest := []) ⟨hx, hb, hml, hown, hts⟩ (k10_mustBeLink l hst dC dI kB kI kJ kZ kC kS s.heap.size h0 xa1 xa3 xa15 xa27 xa28 xa33 xa38 xa41 xa45 xa46 xa47 xa52 xa54 xa55 xa60 xa62 xa67 xa4 xa5 xa6 xa7 xa8 xa9 xa10 xa11 xa12 xa13 xa14 p0) (cwV 1 hts gX10_link_X10_mustBeLink rfl rfl rfl (by decide +kernel) ⟨Nat.le_of_ble_eq_true rfl, Nat.le_of_ble_eq_true rfl⟩) ⟨fun a U g mk q => by obtain ⟨q0, q1, qP, qE, qD, qX, qT⟩ := q; exact ⟨q0, q1, qP, kE_call qE, qD, kX_call qX, kT_call qT⟩, va_recv hK hP (ci := 10) (q0 := 0) rfl rfl, fun U hU hW => ⟨rfl, by rw [hU], by rw [hU]; exact hPc, kE_warm hW hE, hDc.weaken (fun _ _ _ _ => trivial), kX_warm hW hXs, kT_at hT hS hFc hW hU⟩⟩ rfl rfl hl.1 rfl (lv_room (Nat.le_of_ble_eq_true rfl)) dX10_link_2 ⟨Nat.le_of_ble_eq_true rfl, Nat.le_of_ble_eq_true rfl⟩) hS (fun q _ h => hFc q h) hFc (fun q _ h => hFc q h) (fun E ce q9 u t H1 locs ht hvm hpx hBX hz1 hk1 hS hc9 hv9 hcl9 => ?_) (fun u t H1 locs ht hvm w2 hB hz1 hk1 hS => ?_)
  · exact vx_out (fun x h9 => (hexT x h9).elim) hlocks hc9 hv9 hcl9 (fun t9 ht9 hvm9 => ⟨(), trivial, hBX, hS.F ht9⟩) hS.2.2 (Nat.le_of_ble_eq_true rfl) (Nat.le_of_ble_eq_true rfl)
  · exact w2.elim
def rm_k10_hop : Room := { frames := 7, cells := 1, slots := 6, locals := 103 }
set_option maxHeartbeats 4000000 in
set_option maxRecDepth 100000 in
theorem k10_hop (l : Launch) (hst : l.stackTraces = false) (dC : Nat → ClassId) (dI : Nat → Nat → Nat) (kB kI kJ kZ kC kS : ClassId) (sz : Nat) (h0 : Nat) (xa1 : Nat) (xa3 : Nat) (xa15 : Nat) (xa27 : Nat) (xa28 : Nat) (xa33 : Nat) (xa38 : Nat) (xa41 : Nat) (xa45 : Nat) (xa46 : Nat) (xa47 : Nat) (xa52 : Nat) (xa54 : Nat) (xa55 : Nat) (xa60 : Nat) (xa62 : Nat) (xa67 : Nat) (xa4 : Nat) (xa5 : Nat) (xa6 : Nat) (xa7 : Nat) (xa8 : Nat) (xa9 : Nat) (xa10 : Nat) (xa11 : Nat) (xa12 : Nat) (xa13 : Nat) (xa14 : Nat) (p0 : Int32) (p1 : Int32) (p2 : Int32) : vx_Met l yX10_hop wsX10_hop rm_k10_hop (va_Pc [.ref h0, .int p0, .int p1, .int p2] (fun U => U.heap.size = sz ∧ va_P (dC, dI) vwCl [(h0, .inr (10, [.ref xa1, .ref xa3, .ref xa15, .ref xa27, .ref xa28, .ref xa33, .ref xa38, .ref xa41, .ref xa45, .ref xa46, .ref xa47, .ref xa52, .ref xa54, .int 0, .ref xa55, .ref xa60, .ref xa62, .ref xa67, .int (-1)])), (xa3, .inr (2, [.ref xa4, .ref xa5, .ref xa6, .ref xa7, .ref xa8, .ref xa9, .ref xa10, .int 0, .int 0, .int 0, .int 5, .ref xa11, .ref xa12, .ref xa13, .ref xa14]))] U.heap ∧ kE dC dI kB kI kJ kZ kC kS U ∧ va_D (fun _ => True) [(h0, .inr (10, [.ref xa1, .ref xa3, .ref xa15, .ref xa27, .ref xa28, .ref xa33, .ref xa38, .ref xa41, .ref xa45, .ref xa46, .ref xa47, .ref xa52, .ref xa54, .int 0, .ref xa55, .ref xa60, .ref xa62, .ref xa67, .int (-1)])), (xa3, .inr (2, [.ref xa4, .ref xa5, .ref xa6, .ref xa7, .ref xa8, .ref xa9, .ref xa10, .int 0, .int 0, .int 0, .int 5, .ref xa11, .ref xa12, .ref xa13, .ref xa14]))] ∧ kX U ∧ kT (va_A [(h0, .inr (10, [.ref xa1, .ref xa3, .ref xa15, .ref xa27, .ref xa28, .ref xa33, .ref xa38, .ref xa41, .ref xa45, .ref xa46, .ref xa47, .ref xa52, .ref xa54, .int 0, .ref xa55, .ref xa60, .ref xa62, .ref xa67, .int (-1)])), (xa3, .inr (2, [.ref xa4, .ref xa5, .ref xa6, .ref xa7, .ref xa8, .ref xa9, .ref xa10, .int 0, .int 0, .int 0, .int 5, .ref xa11, .ref xa12, .ref xa13, .ref xa14]))] sz) U)) (va_Qi (fun (r : Int32) (_ : Unit) => False) (fun _ t => va_P (dC, dI) vwCl [] t.heap ∧ va_D (va_A [(h0, .inr (10, [.ref xa1, .ref xa3, .ref xa15, .ref xa27, .ref xa28, .ref xa33, .ref xa38, .ref xa41, .ref xa45, .ref xa46, .ref xa47, .ref xa52, .ref xa54, .int 0, .ref xa55, .ref xa60, .ref xa62, .ref xa67, .int (-1)])), (xa3, .inr (2, [.ref xa4, .ref xa5, .ref xa6, .ref xa7, .ref xa8, .ref xa9, .ref xa10, .int 0, .int 0, .int 0, .int 5, .ref xa11, .ref xa12, .ref xa13, .ref xa14]))] sz) []) (va_A [(h0, .inr (10, [.ref xa1, .ref xa3, .ref xa15, .ref xa27, .ref xa28, .ref xa33, .ref xa38, .ref xa41, .ref xa45, .ref xa46, .ref xa47, .ref xa52, .ref xa54, .int 0, .ref xa55, .ref xa60, .ref xa62, .ref xa67, .int (-1)])), (xa3, .inr (2, [.ref xa4, .ref xa5, .ref xa6, .ref xa7, .ref xa8, .ref xa9, .ref xa10, .int 0, .int 0, .int 0, .int 5, .ref xa11, .ref xa12, .ref xa13, .ref xa14]))] sz)) (vx_X (fun (_ : Unit) => True) (fun (E : String) (_ : Unit) (_ : State) => E = "java/util/NoSuchElementException") (va_A [(h0, .inr (10, [.ref xa1, .ref xa3, .ref xa15, .ref xa27, .ref xa28, .ref xa33, .ref xa38, .ref xa41, .ref xa45, .ref xa46, .ref xa47, .ref xa52, .ref xa54, .int 0, .ref xa55, .ref xa60, .ref xa62, .ref xa67, .int (-1)])), (xa3, .inr (2, [.ref xa4, .ref xa5, .ref xa6, .ref xa7, .ref xa8, .ref xa9, .ref xa10, .int 0, .int 0, .int 0, .int 5, .ref xa11, .ref xa12, .ref xa13, .ref xa14]))] sz)) 1 6 (va_A [(h0, .inr (10, [.ref xa1, .ref xa3, .ref xa15, .ref xa27, .ref xa28, .ref xa33, .ref xa38, .ref xa41, .ref xa45, .ref xa46, .ref xa47, .ref xa52, .ref xa54, .int 0, .ref xa55, .ref xa60, .ref xa62, .ref xa67, .int (-1)])), (xa3, .inr (2, [.ref xa4, .ref xa5, .ref xa6, .ref xa7, .ref xa8, .ref xa9, .ref xa10, .int 0, .int 0, .int 0, .int 5, .ref xa11, .ref xa12, .ref xa13, .ref xa14]))] sz) := by
  refine vx_ofW (cc := cX10_hop) (maxL := 4) (ret := (some .int)) (by decide) rfl ?_
  intro p e s m args0 below meth c s₁ B hml hexT hv
  obtain ⟨hargs, hsz, hP, hE, hD0, hXs, hT⟩ := hv
  have hx := B.exec
  have hb := B.bytes
  have hr := B.returns
  have hts := atoms_spec (ws := wsX10_hop) B.pre
  have hown : s.vm.findClass RX10 = some m.cls := findClass_of_methodNamed B.named
  have hlocks := B.notSynchronized
  have hK := hE.1
  have hin10 : ∀ w ∈ wsX100, w ∈ wsX10_hop := fun _ h9 => List.mem_cons_of_mem _ (List.mem_append_left _ (List.mem_append_left _ (List.mem_append_left _ (List.mem_append_left _ (List.mem_append_right _ h9)))))
  have hin2 : ∀ w ∈ wsX20, w ∈ wsX10_hop := fun _ h9 => List.mem_cons_of_mem _ (List.mem_append_left _ (List.mem_append_left _ (List.mem_append_left _ (List.mem_append_right _ h9))))
  have hin0 : ∀ w ∈ wsX00, w ∈ wsX10_hop := fun _ h9 => List.mem_cons_of_mem _ (List.mem_append_left _ (List.mem_append_left _ (List.mem_append_right _ h9)))
  have hin7 : ∀ w ∈ wsX70, w ∈ wsX10_hop := fun _ h9 => List.mem_cons_of_mem _ (List.mem_append_left _ (List.mem_append_right _ h9))
  subst hsz
  have hD := hD0.self (sz := s.heap.size)
  generalize hAe : va_A [(h0, .inr (10, [.ref xa1, .ref xa3, .ref xa15, .ref xa27, .ref xa28, .ref xa33, .ref xa38, .ref xa41, .ref xa45, .ref xa46, .ref xa47, .ref xa52, .ref xa54, .int 0, .ref xa55, .ref xa60, .ref xa62, .ref xa67, .int (-1)])), (xa3, .inr (2, [.ref xa4, .ref xa5, .ref xa6, .ref xa7, .ref xa8, .ref xa9, .ref xa10, .int 0, .int 0, .int 0, .int 5, .ref xa11, .ref xa12, .ref xa13, .ref xa14]))] s.heap.size = A at hD hT ⊢
  have hA : ∀ q : Nat, s.heap.size ≤ q → A q := fun q h => by rw [← hAe]; exact Or.inr h
  have hS : va_S A s.heap s.heap [] := va_S.rf
  have hP : va_P (dC, dI) vwCl [(h0, .inr (10, [.ref xa1, .ref xa3, .ref xa15, .ref xa27, .ref xa28, .ref xa33, .ref xa38, .ref xa41, .ref xa45, .ref xa46, .ref xa47, .ref xa52, .ref xa54, .int 0, .ref xa55, .ref xa60, .ref xa62, .ref xa67, .int (-1)])), (xa3, .inr (2, [.ref xa4, .ref xa5, .ref xa6, .ref xa7, .ref xa8, .ref xa9, .ref xa10, .int 0, .int 0, .int 0, .int 5, .ref xa11, .ref xa12, .ref xa13, .ref xa14]))] s.heap := hP
  have hl := lv_entry ([.ref h0, .int p0, .int p1, .int p2]) (n := 4) (Nat.le_of_ble_eq_true rfl)
  have hla : entryFrame m args0 4 = entryFrame m ([.ref h0, .int p0, .int p1, .int p2] : List Value).toArray 4 := by rw [hargs]
  rw [hla, lg_entry_eq]
  generalize (lg_sl ([.ref h0, .int p0, .int p1, .int p2]) ++ List.replicate (4 - (lg_sl ([.ref h0, .int p0, .int p1, .int p2])).length) Slot.unset).toArray = ls at hl ⊢
  have hl : lv_has ls 4 [(0, .ref h0), (1, .int p0), (2, .int p1), (3, .int p2)] := hl
  refine lv_aload_n hx hb dX10_hop_0 rfl (lv_at hl 0 rfl) ?_
  refine lv_iload_n hx hb dX10_hop_1 rfl (lv_at hl 1 rfl) ?_
  have hPc := hP.sub (ws' := [(h0, .inr (10, [.ref xa1, .ref xa3, .ref xa15, .ref xa27, .ref xa28, .ref xa33, .ref xa38, .ref xa41, .ref xa45, .ref xa46, .ref xa47, .ref xa52, .ref xa54, .int 0, .ref xa55, .ref xa60, .ref xa62, .ref xa67, .int (-1)])), (xa3, .inr (2, [.ref xa4, .ref xa5, .ref xa6, .ref xa7, .ref xa8, .ref xa9, .ref xa10, .int 0, .int 0, .int 0, .int 5, .ref xa11, .ref xa12, .ref xa13, .ref xa14]))]) [0, 1] rfl
  have hDc := hD.sub (ws' := [(h0, .inr (10, [.ref xa1, .ref xa3, .ref xa15, .ref xa27, .ref xa28, .ref xa33, .ref xa38, .ref xa41, .ref xa45, .ref xa46, .ref xa47, .ref xa52, .ref xa54, .int 0, .ref xa55, .ref xa60, .ref xa62, .ref xa67, .int (-1)])), (xa3, .inr (2, [.ref xa4, .ref xa5, .ref xa6, .ref xa7, .ref xa8, .ref xa9, .ref xa10, .int 0, .int 0, .int 0, .int 5, .ref xa11, .ref xa12, .ref xa13, .ref xa14]))]) [0, 1] (by decide) rfl
  have hFc := va_free (wc := [(h0, .inr (10, [.ref xa1, .ref xa3, .ref xa15, .ref xa27, .ref xa28, .ref xa33, .ref xa38, .ref xa41, .ref xa45, .ref xa46, .ref xa47, .ref xa52, .ref xa54, .int 0, .ref xa55, .ref xa60, .ref xa62, .ref xa67, .int (-1)])), (xa3, .inr (2, [.ref xa4, .ref xa5, .ref xa6, .ref xa7, .ref xa8, .ref xa9, .ref xa10, .int 0, .int 0, .int 0, .int 5, .ref xa11, .ref xa12, .ref xa13, .ref xa14]))]) hD hS hA [0, 1] rfl
  refine vx_callv (vx_runV (As := [.int p0]) (rest := []) ⟨hx, hb, hml, hown, hts⟩ (k10_mustBeGoal l hst dC dI kB kI kJ kZ kC kS s.heap.size h0 xa1 xa3 xa15 xa27 xa28 xa33 xa38 xa41 xa45 xa46 xa47 xa52 xa54 xa55 xa60 xa62 xa67 xa4 xa5 xa6 xa7 xa8 xa9 xa10 xa11 xa12 xa13 xa14 p0) (cwV 1 hts gX10_hop_X10_mustBeGoal rfl rfl rfl (by decide +kernel) ⟨Nat.le_of_ble_eq_true rfl, Nat.le_of_ble_eq_true rfl⟩) ⟨fun a U g mk q => by obtain ⟨q0, q1, qP, qE, qD, qX, qT⟩ := q; exact ⟨q0, q1, qP, kE_call qE, qD, kX_call qX, kT_call qT⟩, va_recv hK hP (ci := 10) (q0 := 0) rfl rfl, fun U hU hW => ⟨rfl, by rw [hU], by rw [hU]; exact hPc, kE_warm hW hE, hDc.weaken (fun _ _ _ _ => trivial), kX_warm hW hXs, kT_at hT hS hFc hW hU⟩⟩ rfl rfl hl.1 rfl (lv_room (Nat.le_of_ble_eq_true rfl)) dX10_hop_2 ⟨Nat.le_of_ble_eq_true rfl, Nat.le_of_ble_eq_true rfl⟩) hS (fun q _ h => hFc q h) hFc (fun q _ h => hFc q h) (fun E ce q9 u t H1 locs ht hvm hpx hBX hz1 hk1 hS hc9 hv9 hcl9 => ?_) (fun u t H1 locs ht hvm w2 hB hz1 hk1 hS => ?_)
  · exact vx_out (fun x h9 => (hexT x h9).elim) hlocks hc9 hv9 hcl9 (fun t9 ht9 hvm9 => ⟨(), trivial, hBX, hS.F ht9⟩) hS.2.2 (Nat.le_of_ble_eq_true rfl) (Nat.le_of_ble_eq_true rfl)
  · exact w2.elim
def rm_k10_edge : Room := { frames := 7, cells := 1, slots := 6, locals := 103 }
set_option maxHeartbeats 4000000 in
set_option maxRecDepth 100000 in
theorem k10_edge (l : Launch) (hst : l.stackTraces = false) (dC : Nat → ClassId) (dI : Nat → Nat → Nat) (kB kI kJ kZ kC kS : ClassId) (sz : Nat) (h0 : Nat) (xa1 : Nat) (xa3 : Nat) (xa15 : Nat) (xa27 : Nat) (xa28 : Nat) (xa33 : Nat) (xa38 : Nat) (xa41 : Nat) (xa45 : Nat) (xa46 : Nat) (xa47 : Nat) (xa52 : Nat) (xa54 : Nat) (xa55 : Nat) (xa60 : Nat) (xa62 : Nat) (xa67 : Nat) (xa4 : Nat) (xa5 : Nat) (xa6 : Nat) (xa7 : Nat) (xa8 : Nat) (xa9 : Nat) (xa10 : Nat) (xa11 : Nat) (xa12 : Nat) (xa13 : Nat) (xa14 : Nat) (p0 : Int32) (p1 : Int32) (p2 : Int32) (p3 : Int32) : vx_Met l yX10_edge wsX10_edge rm_k10_edge (va_Pc [.ref h0, .int p0, .int p1, .int p2, .int p3] (fun U => U.heap.size = sz ∧ va_P (dC, dI) vwCl [(h0, .inr (10, [.ref xa1, .ref xa3, .ref xa15, .ref xa27, .ref xa28, .ref xa33, .ref xa38, .ref xa41, .ref xa45, .ref xa46, .ref xa47, .ref xa52, .ref xa54, .int 0, .ref xa55, .ref xa60, .ref xa62, .ref xa67, .int (-1)])), (xa3, .inr (2, [.ref xa4, .ref xa5, .ref xa6, .ref xa7, .ref xa8, .ref xa9, .ref xa10, .int 0, .int 0, .int 0, .int 5, .ref xa11, .ref xa12, .ref xa13, .ref xa14]))] U.heap ∧ kE dC dI kB kI kJ kZ kC kS U ∧ va_D (fun _ => True) [(h0, .inr (10, [.ref xa1, .ref xa3, .ref xa15, .ref xa27, .ref xa28, .ref xa33, .ref xa38, .ref xa41, .ref xa45, .ref xa46, .ref xa47, .ref xa52, .ref xa54, .int 0, .ref xa55, .ref xa60, .ref xa62, .ref xa67, .int (-1)])), (xa3, .inr (2, [.ref xa4, .ref xa5, .ref xa6, .ref xa7, .ref xa8, .ref xa9, .ref xa10, .int 0, .int 0, .int 0, .int 5, .ref xa11, .ref xa12, .ref xa13, .ref xa14]))] ∧ kX U ∧ kT (va_A [(h0, .inr (10, [.ref xa1, .ref xa3, .ref xa15, .ref xa27, .ref xa28, .ref xa33, .ref xa38, .ref xa41, .ref xa45, .ref xa46, .ref xa47, .ref xa52, .ref xa54, .int 0, .ref xa55, .ref xa60, .ref xa62, .ref xa67, .int (-1)])), (xa3, .inr (2, [.ref xa4, .ref xa5, .ref xa6, .ref xa7, .ref xa8, .ref xa9, .ref xa10, .int 0, .int 0, .int 0, .int 5, .ref xa11, .ref xa12, .ref xa13, .ref xa14]))] sz) U)) (va_Qi (fun (r : Int32) (_ : Unit) => False) (fun _ t => va_P (dC, dI) vwCl [] t.heap ∧ va_D (va_A [(h0, .inr (10, [.ref xa1, .ref xa3, .ref xa15, .ref xa27, .ref xa28, .ref xa33, .ref xa38, .ref xa41, .ref xa45, .ref xa46, .ref xa47, .ref xa52, .ref xa54, .int 0, .ref xa55, .ref xa60, .ref xa62, .ref xa67, .int (-1)])), (xa3, .inr (2, [.ref xa4, .ref xa5, .ref xa6, .ref xa7, .ref xa8, .ref xa9, .ref xa10, .int 0, .int 0, .int 0, .int 5, .ref xa11, .ref xa12, .ref xa13, .ref xa14]))] sz) []) (va_A [(h0, .inr (10, [.ref xa1, .ref xa3, .ref xa15, .ref xa27, .ref xa28, .ref xa33, .ref xa38, .ref xa41, .ref xa45, .ref xa46, .ref xa47, .ref xa52, .ref xa54, .int 0, .ref xa55, .ref xa60, .ref xa62, .ref xa67, .int (-1)])), (xa3, .inr (2, [.ref xa4, .ref xa5, .ref xa6, .ref xa7, .ref xa8, .ref xa9, .ref xa10, .int 0, .int 0, .int 0, .int 5, .ref xa11, .ref xa12, .ref xa13, .ref xa14]))] sz)) (vx_X (fun (_ : Unit) => True) (fun (E : String) (_ : Unit) (_ : State) => E = "java/util/NoSuchElementException") (va_A [(h0, .inr (10, [.ref xa1, .ref xa3, .ref xa15, .ref xa27, .ref xa28, .ref xa33, .ref xa38, .ref xa41, .ref xa45, .ref xa46, .ref xa47, .ref xa52, .ref xa54, .int 0, .ref xa55, .ref xa60, .ref xa62, .ref xa67, .int (-1)])), (xa3, .inr (2, [.ref xa4, .ref xa5, .ref xa6, .ref xa7, .ref xa8, .ref xa9, .ref xa10, .int 0, .int 0, .int 0, .int 5, .ref xa11, .ref xa12, .ref xa13, .ref xa14]))] sz)) 1 6 (va_A [(h0, .inr (10, [.ref xa1, .ref xa3, .ref xa15, .ref xa27, .ref xa28, .ref xa33, .ref xa38, .ref xa41, .ref xa45, .ref xa46, .ref xa47, .ref xa52, .ref xa54, .int 0, .ref xa55, .ref xa60, .ref xa62, .ref xa67, .int (-1)])), (xa3, .inr (2, [.ref xa4, .ref xa5, .ref xa6, .ref xa7, .ref xa8, .ref xa9, .ref xa10, .int 0, .int 0, .int 0, .int 5, .ref xa11, .ref xa12, .ref xa13, .ref xa14]))] sz) := by
  refine vx_ofW (cc := cX10_edge) (maxL := 5) (ret := (some .int)) (by decide) rfl ?_
  intro p e s m args0 below meth c s₁ B hml hexT hv
  obtain ⟨hargs, hsz, hP, hE, hD0, hXs, hT⟩ := hv
  have hx := B.exec
  have hb := B.bytes
  have hr := B.returns
  have hts := atoms_spec (ws := wsX10_edge) B.pre
  have hown : s.vm.findClass RX10 = some m.cls := findClass_of_methodNamed B.named
  have hlocks := B.notSynchronized
  have hK := hE.1
  have hin10 : ∀ w ∈ wsX100, w ∈ wsX10_edge := fun _ h9 => List.mem_cons_of_mem _ (List.mem_append_left _ (List.mem_append_left _ (List.mem_append_left _ (List.mem_append_left _ (List.mem_append_right _ h9)))))
  have hin7 : ∀ w ∈ wsX70, w ∈ wsX10_edge := fun _ h9 => List.mem_cons_of_mem _ (List.mem_append_left _ (List.mem_append_left _ (List.mem_append_left _ (List.mem_append_right _ h9))))
  have hin2 : ∀ w ∈ wsX20, w ∈ wsX10_edge := fun _ h9 => List.mem_cons_of_mem _ (List.mem_append_left _ (List.mem_append_left _ (List.mem_append_right _ h9)))
  have hin0 : ∀ w ∈ wsX00, w ∈ wsX10_edge := fun _ h9 => List.mem_cons_of_mem _ (List.mem_append_left _ (List.mem_append_right _ h9))
  subst hsz
  have hD := hD0.self (sz := s.heap.size)
  generalize hAe : va_A [(h0, .inr (10, [.ref xa1, .ref xa3, .ref xa15, .ref xa27, .ref xa28, .ref xa33, .ref xa38, .ref xa41, .ref xa45, .ref xa46, .ref xa47, .ref xa52, .ref xa54, .int 0, .ref xa55, .ref xa60, .ref xa62, .ref xa67, .int (-1)])), (xa3, .inr (2, [.ref xa4, .ref xa5, .ref xa6, .ref xa7, .ref xa8, .ref xa9, .ref xa10, .int 0, .int 0, .int 0, .int 5, .ref xa11, .ref xa12, .ref xa13, .ref xa14]))] s.heap.size = A at hD hT ⊢
  have hA : ∀ q : Nat, s.heap.size ≤ q → A q := fun q h => by rw [← hAe]; exact Or.inr h
  have hS : va_S A s.heap s.heap [] := va_S.rf
  have hP : va_P (dC, dI) vwCl [(h0, .inr (10, [.ref xa1, .ref xa3, .ref xa15, .ref xa27, .ref xa28, .ref xa33, .ref xa38, .ref xa41, .ref xa45, .ref xa46, .ref xa47, .ref xa52, .ref xa54, .int 0, .ref xa55, .ref xa60, .ref xa62, .ref xa67, .int (-1)])), (xa3, .inr (2, [.ref xa4, .ref xa5, .ref xa6, .ref xa7, .ref xa8, .ref xa9, .ref xa10, .int 0, .int 0, .int 0, .int 5, .ref xa11, .ref xa12, .ref xa13, .ref xa14]))] s.heap := hP
  have hl := lv_entry ([.ref h0, .int p0, .int p1, .int p2, .int p3]) (n := 5) (Nat.le_of_ble_eq_true rfl)
  have hla : entryFrame m args0 5 = entryFrame m ([.ref h0, .int p0, .int p1, .int p2, .int p3] : List Value).toArray 5 := by rw [hargs]
  rw [hla, lg_entry_eq]
  generalize (lg_sl ([.ref h0, .int p0, .int p1, .int p2, .int p3]) ++ List.replicate (5 - (lg_sl ([.ref h0, .int p0, .int p1, .int p2, .int p3])).length) Slot.unset).toArray = ls at hl ⊢
  have hl : lv_has ls 5 [(0, .ref h0), (1, .int p0), (2, .int p1), (3, .int p2), (4, .int p3)] := hl
  refine lv_aload_n hx hb dX10_edge_0 rfl (lv_at hl 0 rfl) ?_
  refine lv_iload_n hx hb dX10_edge_1 rfl (lv_at hl 1 rfl) ?_
  have hPc := hP.sub (ws' := [(h0, .inr (10, [.ref xa1, .ref xa3, .ref xa15, .ref xa27, .ref xa28, .ref xa33, .ref xa38, .ref xa41, .ref xa45, .ref xa46, .ref xa47, .ref xa52, .ref xa54, .int 0, .ref xa55, .ref xa60, .ref xa62, .ref xa67, .int (-1)])), (xa3, .inr (2, [.ref xa4, .ref xa5, .ref xa6, .ref xa7, .ref xa8, .ref xa9, .ref xa10, .int 0, .int 0, .int 0, .int 5, .ref xa11, .ref xa12, .ref xa13, .ref xa14]))]) [0, 1] rfl
  have hDc := hD.sub (ws' := [(h0, .inr (10, [.ref xa1, .ref xa3, .ref xa15, .ref xa27, .ref xa28, .ref xa33, .ref xa38, .ref xa41, .ref xa45, .ref xa46, .ref xa47, .ref xa52, .ref xa54, .int 0, .ref xa55, .ref xa60, .ref xa62, .ref xa67, .int (-1)])), (xa3, .inr (2, [.ref xa4, .ref xa5, .ref xa6, .ref xa7, .ref xa8, .ref xa9, .ref xa10, .int 0, .int 0, .int 0, .int 5, .ref xa11, .ref xa12, .ref xa13, .ref xa14]))]) [0, 1] (by decide) rfl
  have hFc := va_free (wc := [(h0, .inr (10, [.ref xa1, .ref xa3, .ref xa15, .ref xa27, .ref xa28, .ref xa33, .ref xa38, .ref xa41, .ref xa45, .ref xa46, .ref xa47, .ref xa52, .ref xa54, .int 0, .ref xa55, .ref xa60, .ref xa62, .ref xa67, .int (-1)])), (xa3, .inr (2, [.ref xa4, .ref xa5, .ref xa6, .ref xa7, .ref xa8, .ref xa9, .ref xa10, .int 0, .int 0, .int 0, .int 5, .ref xa11, .ref xa12, .ref xa13, .ref xa14]))]) hD hS hA [0, 1] rfl
  refine vx_callv (vx_runV (As := [.int p0]) (rest := []) ⟨hx, hb, hml, hown, hts⟩ (k10_mustBeGoal l hst dC dI kB kI kJ kZ kC kS s.heap.size h0 xa1 xa3 xa15 xa27 xa28 xa33 xa38 xa41 xa45 xa46 xa47 xa52 xa54 xa55 xa60 xa62 xa67 xa4 xa5 xa6 xa7 xa8 xa9 xa10 xa11 xa12 xa13 xa14 p0) (cwV 1 hts gX10_edge_X10_mustBeGoal rfl rfl rfl (by decide +kernel) ⟨Nat.le_of_ble_eq_true rfl, Nat.le_of_ble_eq_true rfl⟩) ⟨fun a U g mk q => by obtain ⟨q0, q1, qP, qE, qD, qX, qT⟩ := q; exact ⟨q0, q1, qP, kE_call qE, qD, kX_call qX, kT_call qT⟩, va_recv hK hP (ci := 10) (q0 := 0) rfl rfl, fun U hU hW => ⟨rfl, by rw [hU], by rw [hU]; exact hPc, kE_warm hW hE, hDc.weaken (fun _ _ _ _ => trivial), kX_warm hW hXs, kT_at hT hS hFc hW hU⟩⟩ rfl rfl hl.1 rfl (lv_room (Nat.le_of_ble_eq_true rfl)) dX10_edge_2 ⟨Nat.le_of_ble_eq_true rfl, Nat.le_of_ble_eq_true rfl⟩) hS (fun q _ h => hFc q h) hFc (fun q _ h => hFc q h) (fun E ce q9 u t H1 locs ht hvm hpx hBX hz1 hk1 hS hc9 hv9 hcl9 => ?_) (fun u t H1 locs ht hvm w2 hB hz1 hk1 hS => ?_)
  · exact vx_out (fun x h9 => (hexT x h9).elim) hlocks hc9 hv9 hcl9 (fun t9 ht9 hvm9 => ⟨(), trivial, hBX, hS.F ht9⟩) hS.2.2 (Nat.le_of_ble_eq_true rfl) (Nat.le_of_ble_eq_true rfl)
  · exact w2.elim
def rm_k10_diamond : Room := { frames := 7, cells := 1, slots := 6, locals := 103 }
set_option maxHeartbeats 4000000 in
set_option maxRecDepth 100000 in
theorem k10_diamond (l : Launch) (hst : l.stackTraces = false) (dC : Nat → ClassId) (dI : Nat → Nat → Nat) (kB kI kJ kZ kC kS : ClassId) (sz : Nat) (h0 : Nat) (xa1 : Nat) (xa3 : Nat) (xa15 : Nat) (xa27 : Nat) (xa28 : Nat) (xa33 : Nat) (xa38 : Nat) (xa41 : Nat) (xa45 : Nat) (xa46 : Nat) (xa47 : Nat) (xa52 : Nat) (xa54 : Nat) (xa55 : Nat) (xa60 : Nat) (xa62 : Nat) (xa67 : Nat) (xa4 : Nat) (xa5 : Nat) (xa6 : Nat) (xa7 : Nat) (xa8 : Nat) (xa9 : Nat) (xa10 : Nat) (xa11 : Nat) (xa12 : Nat) (xa13 : Nat) (xa14 : Nat) (p0 : Int32) (p1 : Int32) (p2 : Int32) : vx_Met l yX10_diamond wsX10_diamond rm_k10_diamond (va_Pc [.ref h0, .int p0, .int p1, .int p2] (fun U => U.heap.size = sz ∧ va_P (dC, dI) vwCl [(h0, .inr (10, [.ref xa1, .ref xa3, .ref xa15, .ref xa27, .ref xa28, .ref xa33, .ref xa38, .ref xa41, .ref xa45, .ref xa46, .ref xa47, .ref xa52, .ref xa54, .int 0, .ref xa55, .ref xa60, .ref xa62, .ref xa67, .int (-1)])), (xa3, .inr (2, [.ref xa4, .ref xa5, .ref xa6, .ref xa7, .ref xa8, .ref xa9, .ref xa10, .int 0, .int 0, .int 0, .int 5, .ref xa11, .ref xa12, .ref xa13, .ref xa14]))] U.heap ∧ kE dC dI kB kI kJ kZ kC kS U ∧ va_D (fun _ => True) [(h0, .inr (10, [.ref xa1, .ref xa3, .ref xa15, .ref xa27, .ref xa28, .ref xa33, .ref xa38, .ref xa41, .ref xa45, .ref xa46, .ref xa47, .ref xa52, .ref xa54, .int 0, .ref xa55, .ref xa60, .ref xa62, .ref xa67, .int (-1)])), (xa3, .inr (2, [.ref xa4, .ref xa5, .ref xa6, .ref xa7, .ref xa8, .ref xa9, .ref xa10, .int 0, .int 0, .int 0, .int 5, .ref xa11, .ref xa12, .ref xa13, .ref xa14]))] ∧ kX U ∧ kT (va_A [(h0, .inr (10, [.ref xa1, .ref xa3, .ref xa15, .ref xa27, .ref xa28, .ref xa33, .ref xa38, .ref xa41, .ref xa45, .ref xa46, .ref xa47, .ref xa52, .ref xa54, .int 0, .ref xa55, .ref xa60, .ref xa62, .ref xa67, .int (-1)])), (xa3, .inr (2, [.ref xa4, .ref xa5, .ref xa6, .ref xa7, .ref xa8, .ref xa9, .ref xa10, .int 0, .int 0, .int 0, .int 5, .ref xa11, .ref xa12, .ref xa13, .ref xa14]))] sz) U)) (va_Qi (fun (r : Int32) (_ : Unit) => False) (fun _ t => va_P (dC, dI) vwCl [] t.heap ∧ va_D (va_A [(h0, .inr (10, [.ref xa1, .ref xa3, .ref xa15, .ref xa27, .ref xa28, .ref xa33, .ref xa38, .ref xa41, .ref xa45, .ref xa46, .ref xa47, .ref xa52, .ref xa54, .int 0, .ref xa55, .ref xa60, .ref xa62, .ref xa67, .int (-1)])), (xa3, .inr (2, [.ref xa4, .ref xa5, .ref xa6, .ref xa7, .ref xa8, .ref xa9, .ref xa10, .int 0, .int 0, .int 0, .int 5, .ref xa11, .ref xa12, .ref xa13, .ref xa14]))] sz) []) (va_A [(h0, .inr (10, [.ref xa1, .ref xa3, .ref xa15, .ref xa27, .ref xa28, .ref xa33, .ref xa38, .ref xa41, .ref xa45, .ref xa46, .ref xa47, .ref xa52, .ref xa54, .int 0, .ref xa55, .ref xa60, .ref xa62, .ref xa67, .int (-1)])), (xa3, .inr (2, [.ref xa4, .ref xa5, .ref xa6, .ref xa7, .ref xa8, .ref xa9, .ref xa10, .int 0, .int 0, .int 0, .int 5, .ref xa11, .ref xa12, .ref xa13, .ref xa14]))] sz)) (vx_X (fun (_ : Unit) => True) (fun (E : String) (_ : Unit) (_ : State) => E = "java/util/NoSuchElementException") (va_A [(h0, .inr (10, [.ref xa1, .ref xa3, .ref xa15, .ref xa27, .ref xa28, .ref xa33, .ref xa38, .ref xa41, .ref xa45, .ref xa46, .ref xa47, .ref xa52, .ref xa54, .int 0, .ref xa55, .ref xa60, .ref xa62, .ref xa67, .int (-1)])), (xa3, .inr (2, [.ref xa4, .ref xa5, .ref xa6, .ref xa7, .ref xa8, .ref xa9, .ref xa10, .int 0, .int 0, .int 0, .int 5, .ref xa11, .ref xa12, .ref xa13, .ref xa14]))] sz)) 1 6 (va_A [(h0, .inr (10, [.ref xa1, .ref xa3, .ref xa15, .ref xa27, .ref xa28, .ref xa33, .ref xa38, .ref xa41, .ref xa45, .ref xa46, .ref xa47, .ref xa52, .ref xa54, .int 0, .ref xa55, .ref xa60, .ref xa62, .ref xa67, .int (-1)])), (xa3, .inr (2, [.ref xa4, .ref xa5, .ref xa6, .ref xa7, .ref xa8, .ref xa9, .ref xa10, .int 0, .int 0, .int 0, .int 5, .ref xa11, .ref xa12, .ref xa13, .ref xa14]))] sz) := by
  refine vx_ofW (cc := cX10_diamond) (maxL := 7) (ret := (some .int)) (by decide) rfl ?_
  intro p e s m args0 below meth c s₁ B hml hexT hv
  obtain ⟨hargs, hsz, hP, hE, hD0, hXs, hT⟩ := hv
  have hx := B.exec
  have hb := B.bytes
  have hr := B.returns
  have hts := atoms_spec (ws := wsX10_diamond) B.pre
  have hown : s.vm.findClass RX10 = some m.cls := findClass_of_methodNamed B.named
  have hlocks := B.notSynchronized
  have hK := hE.1
  have hin10 : ∀ w ∈ wsX100, w ∈ wsX10_diamond := fun _ h9 => List.mem_cons_of_mem _ (List.mem_append_left _ (List.mem_append_left _ (List.mem_append_left _ (List.mem_append_left _ (List.mem_append_right _ h9)))))
  have hin7 : ∀ w ∈ wsX70, w ∈ wsX10_diamond := fun _ h9 => List.mem_cons_of_mem _ (List.mem_append_left _ (List.mem_append_left _ (List.mem_append_left _ (List.mem_append_right _ h9))))
  have hin2 : ∀ w ∈ wsX20, w ∈ wsX10_diamond := fun _ h9 => List.mem_cons_of_mem _ (List.mem_append_left _ (List.mem_append_left _ (List.mem_append_right _ h9)))
  have hin0 : ∀ w ∈ wsX00, w ∈ wsX10_diamond := fun _ h9 => List.mem_cons_of_mem _ (List.mem_append_left _ (List.mem_append_right _ h9))
  subst hsz
  have hD := hD0.self (sz := s.heap.size)
  generalize hAe : va_A [(h0, .inr (10, [.ref xa1, .ref xa3, .ref xa15, .ref xa27, .ref xa28, .ref xa33, .ref xa38, .ref xa41, .ref xa45, .ref xa46, .ref xa47, .ref xa52, .ref xa54, .int 0, .ref xa55, .ref xa60, .ref xa62, .ref xa67, .int (-1)])), (xa3, .inr (2, [.ref xa4, .ref xa5, .ref xa6, .ref xa7, .ref xa8, .ref xa9, .ref xa10, .int 0, .int 0, .int 0, .int 5, .ref xa11, .ref xa12, .ref xa13, .ref xa14]))] s.heap.size = A at hD hT ⊢
  have hA : ∀ q : Nat, s.heap.size ≤ q → A q := fun q h => by rw [← hAe]; exact Or.inr h
  have hS : va_S A s.heap s.heap [] := va_S.rf
  have hP : va_P (dC, dI) vwCl [(h0, .inr (10, [.ref xa1, .ref xa3, .ref xa15, .ref xa27, .ref xa28, .ref xa33, .ref xa38, .ref xa41, .ref xa45, .ref xa46, .ref xa47, .ref xa52, .ref xa54, .int 0, .ref xa55, .ref xa60, .ref xa62, .ref xa67, .int (-1)])), (xa3, .inr (2, [.ref xa4, .ref xa5, .ref xa6, .ref xa7, .ref xa8, .ref xa9, .ref xa10, .int 0, .int 0, .int 0, .int 5, .ref xa11, .ref xa12, .ref xa13, .ref xa14]))] s.heap := hP
  have hl := lv_entry ([.ref h0, .int p0, .int p1, .int p2]) (n := 7) (Nat.le_of_ble_eq_true rfl)
  have hla : entryFrame m args0 7 = entryFrame m ([.ref h0, .int p0, .int p1, .int p2] : List Value).toArray 7 := by rw [hargs]
  rw [hla, lg_entry_eq]
  generalize (lg_sl ([.ref h0, .int p0, .int p1, .int p2]) ++ List.replicate (7 - (lg_sl ([.ref h0, .int p0, .int p1, .int p2])).length) Slot.unset).toArray = ls at hl ⊢
  have hl : lv_has ls 7 [(0, .ref h0), (1, .int p0), (2, .int p1), (3, .int p2)] := hl
  refine lv_aload_n hx hb dX10_diamond_0 rfl (lv_at hl 0 rfl) ?_
  refine lv_iload_n hx hb dX10_diamond_1 rfl (lv_at hl 1 rfl) ?_
  have hPc := hP.sub (ws' := [(h0, .inr (10, [.ref xa1, .ref xa3, .ref xa15, .ref xa27, .ref xa28, .ref xa33, .ref xa38, .ref xa41, .ref xa45, .ref xa46, .ref xa47, .ref xa52, .ref xa54, .int 0, .ref xa55, .ref xa60, .ref xa62, .ref xa67, .int (-1)])), (xa3, .inr (2, [.ref xa4, .ref xa5, .ref xa6, .ref xa7, .ref xa8, .ref xa9, .ref xa10, .int 0, .int 0, .int 0, .int 5, .ref xa11, .ref xa12, .ref xa13, .ref xa14]))]) [0, 1] rfl
  have hDc := hD.sub (ws' := [(h0, .inr (10, [.ref xa1, .ref xa3, .ref xa15, .ref xa27, .ref xa28, .ref xa33, .ref xa38, .ref xa41, .ref xa45, .ref xa46, .ref xa47, .ref xa52, .ref xa54, .int 0, .ref xa55, .ref xa60, .ref xa62, .ref xa67, .int (-1)])), (xa3, .inr (2, [.ref xa4, .ref xa5, .ref xa6, .ref xa7, .ref xa8, .ref xa9, .ref xa10, .int 0, .int 0, .int 0, .int 5, .ref xa11, .ref xa12, .ref xa13, .ref xa14]))]) [0, 1] (by decide) rfl
  have hFc := va_free (wc := [(h0, .inr (10, [.ref xa1, .ref xa3, .ref xa15, .ref xa27, .ref xa28, .ref xa33, .ref xa38, .ref xa41, .ref xa45, .ref xa46, .ref xa47, .ref xa52, .ref xa54, .int 0, .ref xa55, .ref xa60, .ref xa62, .ref xa67, .int (-1)])), (xa3, .inr (2, [.ref xa4, .ref xa5, .ref xa6, .ref xa7, .ref xa8, .ref xa9, .ref xa10, .int 0, .int 0, .int 0, .int 5, .ref xa11, .ref xa12, .ref xa13, .ref xa14]))]) hD hS hA [0, 1] rfl
  refine vx_callv (vx_runV (As := [.int p0]) (rest := []) ⟨hx, hb, hml, hown, hts⟩ (k10_mustBeGoal l hst dC dI kB kI kJ kZ kC kS s.heap.size h0 xa1 xa3 xa15 xa27 xa28 xa33 xa38 xa41 xa45 xa46 xa47 xa52 xa54 xa55 xa60 xa62 xa67 xa4 xa5 xa6 xa7 xa8 xa9 xa10 xa11 xa12 xa13 xa14 p0) (cwV 1 hts gX10_diamond_X10_mustBeGoal rfl rfl rfl (by decide +kernel) ⟨Nat.le_of_ble_eq_true rfl, Nat.le_of_ble_eq_true rfl⟩) ⟨fun a U g mk q => by obtain ⟨q0, q1, qP, qE, qD, qX, qT⟩ := q; exact ⟨q0, q1, qP, kE_call qE, qD, kX_call qX, kT_call qT⟩, va_recv hK hP (ci := 10) (q0 := 0) rfl rfl, fun U hU hW => ⟨rfl, by rw [hU], by rw [hU]; exact hPc, kE_warm hW hE, hDc.weaken (fun _ _ _ _ => trivial), kX_warm hW hXs, kT_at hT hS hFc hW hU⟩⟩ rfl rfl hl.1 rfl (lv_room (Nat.le_of_ble_eq_true rfl)) dX10_diamond_2 ⟨Nat.le_of_ble_eq_true rfl, Nat.le_of_ble_eq_true rfl⟩) hS (fun q _ h => hFc q h) hFc (fun q _ h => hFc q h) (fun E ce q9 u t H1 locs ht hvm hpx hBX hz1 hk1 hS hc9 hv9 hcl9 => ?_) (fun u t H1 locs ht hvm w2 hB hz1 hk1 hS => ?_)
  · exact vx_out (fun x h9 => (hexT x h9).elim) hlocks hc9 hv9 hcl9 (fun t9 ht9 hvm9 => ⟨(), trivial, hBX, hS.F ht9⟩) hS.2.2 (Nat.le_of_ble_eq_true rfl) (Nat.le_of_ble_eq_true rfl)
  · exact w2.elim
def rm_k10_truth : Room := { frames := 7, cells := 1, slots := 6, locals := 103 }
set_option maxHeartbeats 4000000 in
set_option maxRecDepth 100000 in
theorem k10_truth (l : Launch) (hst : l.stackTraces = false) (dC : Nat → ClassId) (dI : Nat → Nat → Nat) (kB kI kJ kZ kC kS : ClassId) (sz : Nat) (h0 : Nat) (xa1 : Nat) (xa3 : Nat) (xa15 : Nat) (xa27 : Nat) (xa28 : Nat) (xa33 : Nat) (xa38 : Nat) (xa41 : Nat) (xa45 : Nat) (xa46 : Nat) (xa47 : Nat) (xa52 : Nat) (xa54 : Nat) (xa55 : Nat) (xa60 : Nat) (xa62 : Nat) (xa67 : Nat) (xa4 : Nat) (xa5 : Nat) (xa6 : Nat) (xa7 : Nat) (xa8 : Nat) (xa9 : Nat) (xa10 : Nat) (xa11 : Nat) (xa12 : Nat) (xa13 : Nat) (xa14 : Nat) (p0 : Int32) (p1 : Int32) : vx_Met l yX10_truth wsX10_truth rm_k10_truth (va_Pc [.ref h0, .int p0, .int p1] (fun U => U.heap.size = sz ∧ va_P (dC, dI) vwCl [(h0, .inr (10, [.ref xa1, .ref xa3, .ref xa15, .ref xa27, .ref xa28, .ref xa33, .ref xa38, .ref xa41, .ref xa45, .ref xa46, .ref xa47, .ref xa52, .ref xa54, .int 0, .ref xa55, .ref xa60, .ref xa62, .ref xa67, .int (-1)])), (xa3, .inr (2, [.ref xa4, .ref xa5, .ref xa6, .ref xa7, .ref xa8, .ref xa9, .ref xa10, .int 0, .int 0, .int 0, .int 5, .ref xa11, .ref xa12, .ref xa13, .ref xa14]))] U.heap ∧ kE dC dI kB kI kJ kZ kC kS U ∧ va_D (fun _ => True) [(h0, .inr (10, [.ref xa1, .ref xa3, .ref xa15, .ref xa27, .ref xa28, .ref xa33, .ref xa38, .ref xa41, .ref xa45, .ref xa46, .ref xa47, .ref xa52, .ref xa54, .int 0, .ref xa55, .ref xa60, .ref xa62, .ref xa67, .int (-1)])), (xa3, .inr (2, [.ref xa4, .ref xa5, .ref xa6, .ref xa7, .ref xa8, .ref xa9, .ref xa10, .int 0, .int 0, .int 0, .int 5, .ref xa11, .ref xa12, .ref xa13, .ref xa14]))] ∧ kX U ∧ kT (va_A [(h0, .inr (10, [.ref xa1, .ref xa3, .ref xa15, .ref xa27, .ref xa28, .ref xa33, .ref xa38, .ref xa41, .ref xa45, .ref xa46, .ref xa47, .ref xa52, .ref xa54, .int 0, .ref xa55, .ref xa60, .ref xa62, .ref xa67, .int (-1)])), (xa3, .inr (2, [.ref xa4, .ref xa5, .ref xa6, .ref xa7, .ref xa8, .ref xa9, .ref xa10, .int 0, .int 0, .int 0, .int 5, .ref xa11, .ref xa12, .ref xa13, .ref xa14]))] sz) U)) (va_Qi (fun (r : Int32) (_ : Unit) => False) (fun _ t => va_P (dC, dI) vwCl [] t.heap ∧ va_D (va_A [(h0, .inr (10, [.ref xa1, .ref xa3, .ref xa15, .ref xa27, .ref xa28, .ref xa33, .ref xa38, .ref xa41, .ref xa45, .ref xa46, .ref xa47, .ref xa52, .ref xa54, .int 0, .ref xa55, .ref xa60, .ref xa62, .ref xa67, .int (-1)])), (xa3, .inr (2, [.ref xa4, .ref xa5, .ref xa6, .ref xa7, .ref xa8, .ref xa9, .ref xa10, .int 0, .int 0, .int 0, .int 5, .ref xa11, .ref xa12, .ref xa13, .ref xa14]))] sz) []) (va_A [(h0, .inr (10, [.ref xa1, .ref xa3, .ref xa15, .ref xa27, .ref xa28, .ref xa33, .ref xa38, .ref xa41, .ref xa45, .ref xa46, .ref xa47, .ref xa52, .ref xa54, .int 0, .ref xa55, .ref xa60, .ref xa62, .ref xa67, .int (-1)])), (xa3, .inr (2, [.ref xa4, .ref xa5, .ref xa6, .ref xa7, .ref xa8, .ref xa9, .ref xa10, .int 0, .int 0, .int 0, .int 5, .ref xa11, .ref xa12, .ref xa13, .ref xa14]))] sz)) (vx_X (fun (_ : Unit) => True) (fun (E : String) (_ : Unit) (_ : State) => E = "java/util/NoSuchElementException") (va_A [(h0, .inr (10, [.ref xa1, .ref xa3, .ref xa15, .ref xa27, .ref xa28, .ref xa33, .ref xa38, .ref xa41, .ref xa45, .ref xa46, .ref xa47, .ref xa52, .ref xa54, .int 0, .ref xa55, .ref xa60, .ref xa62, .ref xa67, .int (-1)])), (xa3, .inr (2, [.ref xa4, .ref xa5, .ref xa6, .ref xa7, .ref xa8, .ref xa9, .ref xa10, .int 0, .int 0, .int 0, .int 5, .ref xa11, .ref xa12, .ref xa13, .ref xa14]))] sz)) 1 6 (va_A [(h0, .inr (10, [.ref xa1, .ref xa3, .ref xa15, .ref xa27, .ref xa28, .ref xa33, .ref xa38, .ref xa41, .ref xa45, .ref xa46, .ref xa47, .ref xa52, .ref xa54, .int 0, .ref xa55, .ref xa60, .ref xa62, .ref xa67, .int (-1)])), (xa3, .inr (2, [.ref xa4, .ref xa5, .ref xa6, .ref xa7, .ref xa8, .ref xa9, .ref xa10, .int 0, .int 0, .int 0, .int 5, .ref xa11, .ref xa12, .ref xa13, .ref xa14]))] sz) := by
  refine vx_ofW (cc := cX10_truth) (maxL := 3) (ret := (some .int)) (by decide) rfl ?_
  intro p e s m args0 below meth c s₁ B hml hexT hv
  obtain ⟨hargs, hsz, hP, hE, hD0, hXs, hT⟩ := hv
  have hx := B.exec
  have hb := B.bytes
  have hr := B.returns
  have hts := atoms_spec (ws := wsX10_truth) B.pre
  have hown : s.vm.findClass RX10 = some m.cls := findClass_of_methodNamed B.named
  have hlocks := B.notSynchronized
  have hK := hE.1
  have hin10 : ∀ w ∈ wsX100, w ∈ wsX10_truth := fun _ h9 => List.mem_cons_of_mem _ (List.mem_append_left _ (List.mem_append_left _ (List.mem_append_left _ (List.mem_append_right _ h9))))
  have hin2 : ∀ w ∈ wsX20, w ∈ wsX10_truth := fun _ h9 => List.mem_cons_of_mem _ (List.mem_append_left _ (List.mem_append_left _ (List.mem_append_right _ h9)))
  have hin0 : ∀ w ∈ wsX00, w ∈ wsX10_truth := fun _ h9 => List.mem_cons_of_mem _ (List.mem_append_left _ (List.mem_append_right _ h9))
  subst hsz
  have hD := hD0.self (sz := s.heap.size)
  generalize hAe : va_A [(h0, .inr (10, [.ref xa1, .ref xa3, .ref xa15, .ref xa27, .ref xa28, .ref xa33, .ref xa38, .ref xa41, .ref xa45, .ref xa46, .ref xa47, .ref xa52, .ref xa54, .int 0, .ref xa55, .ref xa60, .ref xa62, .ref xa67, .int (-1)])), (xa3, .inr (2, [.ref xa4, .ref xa5, .ref xa6, .ref xa7, .ref xa8, .ref xa9, .ref xa10, .int 0, .int 0, .int 0, .int 5, .ref xa11, .ref xa12, .ref xa13, .ref xa14]))] s.heap.size = A at hD hT ⊢
  have hA : ∀ q : Nat, s.heap.size ≤ q → A q := fun q h => by rw [← hAe]; exact Or.inr h
  have hS : va_S A s.heap s.heap [] := va_S.rf
  have hP : va_P (dC, dI) vwCl [(h0, .inr (10, [.ref xa1, .ref xa3, .ref xa15, .ref xa27, .ref xa28, .ref xa33, .ref xa38, .ref xa41, .ref xa45, .ref xa46, .ref xa47, .ref xa52, .ref xa54, .int 0, .ref xa55, .ref xa60, .ref xa62, .ref xa67, .int (-1)])), (xa3, .inr (2, [.ref xa4, .ref xa5, .ref xa6, .ref xa7, .ref xa8, .ref xa9, .ref xa10, .int 0, .int 0, .int 0, .int 5, .ref xa11, .ref xa12, .ref xa13, .ref xa14]))] s.heap := hP
  have hl := lv_entry ([.ref h0, .int p0, .int p1]) (n := 3) (Nat.le_of_ble_eq_true rfl)
  have hla : entryFrame m args0 3 = entryFrame m ([.ref h0, .int p0, .int p1] : List Value).toArray 3 := by rw [hargs]
  rw [hla, lg_entry_eq]
  generalize (lg_sl ([.ref h0, .int p0, .int p1]) ++ List.replicate (3 - (lg_sl ([.ref h0, .int p0, .int p1])).length) Slot.unset).toArray = ls at hl ⊢
  have hl : lv_has ls 3 [(0, .ref h0), (1, .int p0), (2, .int p1)] := hl
  refine lv_aload_n hx hb dX10_truth_0 rfl (lv_at hl 0 rfl) ?_
  refine lv_iload_n hx hb dX10_truth_1 rfl (lv_at hl 1 rfl) ?_
  have hPc := hP.sub (ws' := [(h0, .inr (10, [.ref xa1, .ref xa3, .ref xa15, .ref xa27, .ref xa28, .ref xa33, .ref xa38, .ref xa41, .ref xa45, .ref xa46, .ref xa47, .ref xa52, .ref xa54, .int 0, .ref xa55, .ref xa60, .ref xa62, .ref xa67, .int (-1)])), (xa3, .inr (2, [.ref xa4, .ref xa5, .ref xa6, .ref xa7, .ref xa8, .ref xa9, .ref xa10, .int 0, .int 0, .int 0, .int 5, .ref xa11, .ref xa12, .ref xa13, .ref xa14]))]) [0, 1] rfl
  have hDc := hD.sub (ws' := [(h0, .inr (10, [.ref xa1, .ref xa3, .ref xa15, .ref xa27, .ref xa28, .ref xa33, .ref xa38, .ref xa41, .ref xa45, .ref xa46, .ref xa47, .ref xa52, .ref xa54, .int 0, .ref xa55, .ref xa60, .ref xa62, .ref xa67, .int (-1)])), (xa3, .inr (2, [.ref xa4, .ref xa5, .ref xa6, .ref xa7, .ref xa8, .ref xa9, .ref xa10, .int 0, .int 0, .int 0, .int 5, .ref xa11, .ref xa12, .ref xa13, .ref xa14]))]) [0, 1] (by decide) rfl
  have hFc := va_free (wc := [(h0, .inr (10, [.ref xa1, .ref xa3, .ref xa15, .ref xa27, .ref xa28, .ref xa33, .ref xa38, .ref xa41, .ref xa45, .ref xa46, .ref xa47, .ref xa52, .ref xa54, .int 0, .ref xa55, .ref xa60, .ref xa62, .ref xa67, .int (-1)])), (xa3, .inr (2, [.ref xa4, .ref xa5, .ref xa6, .ref xa7, .ref xa8, .ref xa9, .ref xa10, .int 0, .int 0, .int 0, .int 5, .ref xa11, .ref xa12, .ref xa13, .ref xa14]))]) hD hS hA [0, 1] rfl
  refine vx_callv (vx_runV (As := [.int p0]) (rest := []) ⟨hx, hb, hml, hown, hts⟩ (k10_mustBeGoal l hst dC dI kB kI kJ kZ kC kS s.heap.size h0 xa1 xa3 xa15 xa27 xa28 xa33 xa38 xa41 xa45 xa46 xa47 xa52 xa54 xa55 xa60 xa62 xa67 xa4 xa5 xa6 xa7 xa8 xa9 xa10 xa11 xa12 xa13 xa14 p0) (cwV 1 hts gX10_truth_X10_mustBeGoal rfl rfl rfl (by decide +kernel) ⟨Nat.le_of_ble_eq_true rfl, Nat.le_of_ble_eq_true rfl⟩) ⟨fun a U g mk q => by obtain ⟨q0, q1, qP, qE, qD, qX, qT⟩ := q; exact ⟨q0, q1, qP, kE_call qE, qD, kX_call qX, kT_call qT⟩, va_recv hK hP (ci := 10) (q0 := 0) rfl rfl, fun U hU hW => ⟨rfl, by rw [hU], by rw [hU]; exact hPc, kE_warm hW hE, hDc.weaken (fun _ _ _ _ => trivial), kX_warm hW hXs, kT_at hT hS hFc hW hU⟩⟩ rfl rfl hl.1 rfl (lv_room (Nat.le_of_ble_eq_true rfl)) dX10_truth_2 ⟨Nat.le_of_ble_eq_true rfl, Nat.le_of_ble_eq_true rfl⟩) hS (fun q _ h => hFc q h) hFc (fun q _ h => hFc q h) (fun E ce q9 u t H1 locs ht hvm hpx hBX hz1 hk1 hS hc9 hv9 hcl9 => ?_) (fun u t H1 locs ht hvm w2 hB hz1 hk1 hS => ?_)
  · exact vx_out (fun x h9 => (hexT x h9).elim) hlocks hc9 hv9 hcl9 (fun t9 ht9 hvm9 => ⟨(), trivial, hBX, hS.F ht9⟩) hS.2.2 (Nat.le_of_ble_eq_true rfl) (Nat.le_of_ble_eq_true rfl)
  · exact w2.elim
def rm_k10_same : Room := { frames := 7, cells := 1, slots := 6, locals := 103 }
set_option maxHeartbeats 4000000 in
set_option maxRecDepth 100000 in
theorem k10_same (l : Launch) (hst : l.stackTraces = false) (dC : Nat → ClassId) (dI : Nat → Nat → Nat) (kB kI kJ kZ kC kS : ClassId) (sz : Nat) (h0 : Nat) (xa1 : Nat) (xa3 : Nat) (xa15 : Nat) (xa27 : Nat) (xa28 : Nat) (xa33 : Nat) (xa38 : Nat) (xa41 : Nat) (xa45 : Nat) (xa46 : Nat) (xa47 : Nat) (xa52 : Nat) (xa54 : Nat) (xa55 : Nat) (xa60 : Nat) (xa62 : Nat) (xa67 : Nat) (xa4 : Nat) (xa5 : Nat) (xa6 : Nat) (xa7 : Nat) (xa8 : Nat) (xa9 : Nat) (xa10 : Nat) (xa11 : Nat) (xa12 : Nat) (xa13 : Nat) (xa14 : Nat) (p0 : Int32) (p1 : Int32) : vx_Met l yX10_same wsX10_same rm_k10_same (va_Pc [.ref h0, .int p0, .int p1] (fun U => U.heap.size = sz ∧ va_P (dC, dI) vwCl [(h0, .inr (10, [.ref xa1, .ref xa3, .ref xa15, .ref xa27, .ref xa28, .ref xa33, .ref xa38, .ref xa41, .ref xa45, .ref xa46, .ref xa47, .ref xa52, .ref xa54, .int 0, .ref xa55, .ref xa60, .ref xa62, .ref xa67, .int (-1)])), (xa3, .inr (2, [.ref xa4, .ref xa5, .ref xa6, .ref xa7, .ref xa8, .ref xa9, .ref xa10, .int 0, .int 0, .int 0, .int 5, .ref xa11, .ref xa12, .ref xa13, .ref xa14]))] U.heap ∧ kE dC dI kB kI kJ kZ kC kS U ∧ va_D (fun _ => True) [(h0, .inr (10, [.ref xa1, .ref xa3, .ref xa15, .ref xa27, .ref xa28, .ref xa33, .ref xa38, .ref xa41, .ref xa45, .ref xa46, .ref xa47, .ref xa52, .ref xa54, .int 0, .ref xa55, .ref xa60, .ref xa62, .ref xa67, .int (-1)])), (xa3, .inr (2, [.ref xa4, .ref xa5, .ref xa6, .ref xa7, .ref xa8, .ref xa9, .ref xa10, .int 0, .int 0, .int 0, .int 5, .ref xa11, .ref xa12, .ref xa13, .ref xa14]))] ∧ kX U ∧ kT (va_A [(h0, .inr (10, [.ref xa1, .ref xa3, .ref xa15, .ref xa27, .ref xa28, .ref xa33, .ref xa38, .ref xa41, .ref xa45, .ref xa46, .ref xa47, .ref xa52, .ref xa54, .int 0, .ref xa55, .ref xa60, .ref xa62, .ref xa67, .int (-1)])), (xa3, .inr (2, [.ref xa4, .ref xa5, .ref xa6, .ref xa7, .ref xa8, .ref xa9, .ref xa10, .int 0, .int 0, .int 0, .int 5, .ref xa11, .ref xa12, .ref xa13, .ref xa14]))] sz) U)) (va_Qi (fun (r : Int32) (_ : Unit) => False) (fun _ t => va_P (dC, dI) vwCl [] t.heap ∧ va_D (va_A [(h0, .inr (10, [.ref xa1, .ref xa3, .ref xa15, .ref xa27, .ref xa28, .ref xa33, .ref xa38, .ref xa41, .ref xa45, .ref xa46, .ref xa47, .ref xa52, .ref xa54, .int 0, .ref xa55, .ref xa60, .ref xa62, .ref xa67, .int (-1)])), (xa3, .inr (2, [.ref xa4, .ref xa5, .ref xa6, .ref xa7, .ref xa8, .ref xa9, .ref xa10, .int 0, .int 0, .int 0, .int 5, .ref xa11, .ref xa12, .ref xa13, .ref xa14]))] sz) []) (va_A [(h0, .inr (10, [.ref xa1, .ref xa3, .ref xa15, .ref xa27, .ref xa28, .ref xa33, .ref xa38, .ref xa41, .ref xa45, .ref xa46, .ref xa47, .ref xa52, .ref xa54, .int 0, .ref xa55, .ref xa60, .ref xa62, .ref xa67, .int (-1)])), (xa3, .inr (2, [.ref xa4, .ref xa5, .ref xa6, .ref xa7, .ref xa8, .ref xa9, .ref xa10, .int 0, .int 0, .int 0, .int 5, .ref xa11, .ref xa12, .ref xa13, .ref xa14]))] sz)) (vx_X (fun (_ : Unit) => True) (fun (E : String) (_ : Unit) (_ : State) => E = "java/util/NoSuchElementException") (va_A [(h0, .inr (10, [.ref xa1, .ref xa3, .ref xa15, .ref xa27, .ref xa28, .ref xa33, .ref xa38, .ref xa41, .ref xa45, .ref xa46, .ref xa47, .ref xa52, .ref xa54, .int 0, .ref xa55, .ref xa60, .ref xa62, .ref xa67, .int (-1)])), (xa3, .inr (2, [.ref xa4, .ref xa5, .ref xa6, .ref xa7, .ref xa8, .ref xa9, .ref xa10, .int 0, .int 0, .int 0, .int 5, .ref xa11, .ref xa12, .ref xa13, .ref xa14]))] sz)) 1 6 (va_A [(h0, .inr (10, [.ref xa1, .ref xa3, .ref xa15, .ref xa27, .ref xa28, .ref xa33, .ref xa38, .ref xa41, .ref xa45, .ref xa46, .ref xa47, .ref xa52, .ref xa54, .int 0, .ref xa55, .ref xa60, .ref xa62, .ref xa67, .int (-1)])), (xa3, .inr (2, [.ref xa4, .ref xa5, .ref xa6, .ref xa7, .ref xa8, .ref xa9, .ref xa10, .int 0, .int 0, .int 0, .int 5, .ref xa11, .ref xa12, .ref xa13, .ref xa14]))] sz) := by
  refine vx_ofW (cc := cX10_same) (maxL := 3) (ret := (some .int)) (by decide) rfl ?_
  intro p e s m args0 below meth c s₁ B hml hexT hv
  obtain ⟨hargs, hsz, hP, hE, hD0, hXs, hT⟩ := hv
  have hx := B.exec
  have hb := B.bytes
  have hr := B.returns
  have hts := atoms_spec (ws := wsX10_same) B.pre
  have hown : s.vm.findClass RX10 = some m.cls := findClass_of_methodNamed B.named
  have hlocks := B.notSynchronized
  have hK := hE.1
  have hin10 : ∀ w ∈ wsX100, w ∈ wsX10_same := fun _ h9 => List.mem_cons_of_mem _ (List.mem_append_left _ (List.mem_append_left _ (List.mem_append_right _ h9)))
  have hin2 : ∀ w ∈ wsX20, w ∈ wsX10_same := fun _ h9 => List.mem_cons_of_mem _ (List.mem_append_left _ (List.mem_append_right _ h9))
  subst hsz
  have hD := hD0.self (sz := s.heap.size)
  generalize hAe : va_A [(h0, .inr (10, [.ref xa1, .ref xa3, .ref xa15, .ref xa27, .ref xa28, .ref xa33, .ref xa38, .ref xa41, .ref xa45, .ref xa46, .ref xa47, .ref xa52, .ref xa54, .int 0, .ref xa55, .ref xa60, .ref xa62, .ref xa67, .int (-1)])), (xa3, .inr (2, [.ref xa4, .ref xa5, .ref xa6, .ref xa7, .ref xa8, .ref xa9, .ref xa10, .int 0, .int 0, .int 0, .int 5, .ref xa11, .ref xa12, .ref xa13, .ref xa14]))] s.heap.size = A at hD hT ⊢
  have hA : ∀ q : Nat, s.heap.size ≤ q → A q := fun q h => by rw [← hAe]; exact Or.inr h
  have hS : va_S A s.heap s.heap [] := va_S.rf
  have hP : va_P (dC, dI) vwCl [(h0, .inr (10, [.ref xa1, .ref xa3, .ref xa15, .ref xa27, .ref xa28, .ref xa33, .ref xa38, .ref xa41, .ref xa45, .ref xa46, .ref xa47, .ref xa52, .ref xa54, .int 0, .ref xa55, .ref xa60, .ref xa62, .ref xa67, .int (-1)])), (xa3, .inr (2, [.ref xa4, .ref xa5, .ref xa6, .ref xa7, .ref xa8, .ref xa9, .ref xa10, .int 0, .int 0, .int 0, .int 5, .ref xa11, .ref xa12, .ref xa13, .ref xa14]))] s.heap := hP
  have hl := lv_entry ([.ref h0, .int p0, .int p1]) (n := 3) (Nat.le_of_ble_eq_true rfl)
  have hla : entryFrame m args0 3 = entryFrame m ([.ref h0, .int p0, .int p1] : List Value).toArray 3 := by rw [hargs]
  rw [hla, lg_entry_eq]
  generalize (lg_sl ([.ref h0, .int p0, .int p1]) ++ List.replicate (3 - (lg_sl ([.ref h0, .int p0, .int p1])).length) Slot.unset).toArray = ls at hl ⊢
  have hl : lv_has ls 3 [(0, .ref h0), (1, .int p0), (2, .int p1)] := hl
  refine lv_aload_n hx hb dX10_same_0 rfl (lv_at hl 0 rfl) ?_
  refine lv_iload_n hx hb dX10_same_1 rfl (lv_at hl 1 rfl) ?_
  have hPc := hP.sub (ws' := [(h0, .inr (10, [.ref xa1, .ref xa3, .ref xa15, .ref xa27, .ref xa28, .ref xa33, .ref xa38, .ref xa41, .ref xa45, .ref xa46, .ref xa47, .ref xa52, .ref xa54, .int 0, .ref xa55, .ref xa60, .ref xa62, .ref xa67, .int (-1)])), (xa3, .inr (2, [.ref xa4, .ref xa5, .ref xa6, .ref xa7, .ref xa8, .ref xa9, .ref xa10, .int 0, .int 0, .int 0, .int 5, .ref xa11, .ref xa12, .ref xa13, .ref xa14]))]) [0, 1] rfl
  have hDc := hD.sub (ws' := [(h0, .inr (10, [.ref xa1, .ref xa3, .ref xa15, .ref xa27, .ref xa28, .ref xa33, .ref xa38, .ref xa41, .ref xa45, .ref xa46, .ref xa47, .ref xa52, .ref xa54, .int 0, .ref xa55, .ref xa60, .ref xa62, .ref xa67, .int (-1)])), (xa3, .inr (2, [.ref xa4, .ref xa5, .ref xa6, .ref xa7, .ref xa8, .ref xa9, .ref xa10, .int 0, .int 0, .int 0, .int 5, .ref xa11, .ref xa12, .ref xa13, .ref xa14]))]) [0, 1] (by decide) rfl
  have hFc := va_free (wc := [(h0, .inr (10, [.ref xa1, .ref xa3, .ref xa15, .ref xa27, .ref xa28, .ref xa33, .ref xa38, .ref xa41, .ref xa45, .ref xa46, .ref xa47, .ref xa52, .ref xa54, .int 0, .ref xa55, .ref xa60, .ref xa62, .ref xa67, .int (-1)])), (xa3, .inr (2, [.ref xa4, .ref xa5, .ref xa6, .ref xa7, .ref xa8, .ref xa9, .ref xa10, .int 0, .int 0, .int 0, .int 5, .ref xa11, .ref xa12, .ref xa13, .ref xa14]))]) hD hS hA [0, 1] rfl
  refine vx_callv (vx_runV (As := [.int p0]) (rest := []) ⟨hx, hb, hml, hown, hts⟩ (k10_mustBeAddress l hst dC dI kB kI kJ kZ kC kS s.heap.size h0 xa1 xa3 xa15 xa27 xa28 xa33 xa38 xa41 xa45 xa46 xa47 xa52 xa54 xa55 xa60 xa62 xa67 xa4 xa5 xa6 xa7 xa8 xa9 xa10 xa11 xa12 xa13 xa14 p0) (cwV 1 hts gX10_same_X10_mustBeAddress rfl rfl rfl (by decide +kernel) ⟨Nat.le_of_ble_eq_true rfl, Nat.le_of_ble_eq_true rfl⟩) ⟨fun a U g mk q => by obtain ⟨q0, q1, qP, qE, qD, qX, qT⟩ := q; exact ⟨q0, q1, qP, kE_call qE, qD, kX_call qX, kT_call qT⟩, va_recv hK hP (ci := 10) (q0 := 0) rfl rfl, fun U hU hW => ⟨rfl, by rw [hU], by rw [hU]; exact hPc, kE_warm hW hE, hDc.weaken (fun _ _ _ _ => trivial), kX_warm hW hXs, kT_at hT hS hFc hW hU⟩⟩ rfl rfl hl.1 rfl (lv_room (Nat.le_of_ble_eq_true rfl)) dX10_same_2 ⟨Nat.le_of_ble_eq_true rfl, Nat.le_of_ble_eq_true rfl⟩) hS (fun q _ h => hFc q h) hFc (fun q _ h => hFc q h) (fun E ce q9 u t H1 locs ht hvm hpx hBX hz1 hk1 hS hc9 hv9 hcl9 => ?_) (fun u t H1 locs ht hvm w2 hB hz1 hk1 hS => ?_)
  · exact vx_out (fun x h9 => (hexT x h9).elim) hlocks hc9 hv9 hcl9 (fun t9 ht9 hvm9 => ⟨(), trivial, hBX, hS.F ht9⟩) hS.2.2 (Nat.le_of_ble_eq_true rfl) (Nat.le_of_ble_eq_true rfl)
  · exact w2.elim
def rm_k10_port : Room := { frames := 7, cells := 1, slots := 6, locals := 103 }
set_option maxHeartbeats 4000000 in
set_option maxRecDepth 100000 in
theorem k10_port (l : Launch) (hst : l.stackTraces = false) (dC : Nat → ClassId) (dI : Nat → Nat → Nat) (kB kI kJ kZ kC kS : ClassId) (sz : Nat) (h0 : Nat) (xa1 : Nat) (xa3 : Nat) (xa15 : Nat) (xa27 : Nat) (xa28 : Nat) (xa33 : Nat) (xa38 : Nat) (xa41 : Nat) (xa45 : Nat) (xa46 : Nat) (xa47 : Nat) (xa52 : Nat) (xa54 : Nat) (xa55 : Nat) (xa60 : Nat) (xa62 : Nat) (xa67 : Nat) (xa4 : Nat) (xa5 : Nat) (xa6 : Nat) (xa7 : Nat) (xa8 : Nat) (xa9 : Nat) (xa10 : Nat) (xa11 : Nat) (xa12 : Nat) (xa13 : Nat) (xa14 : Nat) (p0 : Int32) (p1 : Int32) : vx_Met l yX10_port wsX10_port rm_k10_port (va_Pc [.ref h0, .int p0, .int p1] (fun U => U.heap.size = sz ∧ va_P (dC, dI) vwCl [(h0, .inr (10, [.ref xa1, .ref xa3, .ref xa15, .ref xa27, .ref xa28, .ref xa33, .ref xa38, .ref xa41, .ref xa45, .ref xa46, .ref xa47, .ref xa52, .ref xa54, .int 0, .ref xa55, .ref xa60, .ref xa62, .ref xa67, .int (-1)])), (xa3, .inr (2, [.ref xa4, .ref xa5, .ref xa6, .ref xa7, .ref xa8, .ref xa9, .ref xa10, .int 0, .int 0, .int 0, .int 5, .ref xa11, .ref xa12, .ref xa13, .ref xa14]))] U.heap ∧ kE dC dI kB kI kJ kZ kC kS U ∧ va_D (fun _ => True) [(h0, .inr (10, [.ref xa1, .ref xa3, .ref xa15, .ref xa27, .ref xa28, .ref xa33, .ref xa38, .ref xa41, .ref xa45, .ref xa46, .ref xa47, .ref xa52, .ref xa54, .int 0, .ref xa55, .ref xa60, .ref xa62, .ref xa67, .int (-1)])), (xa3, .inr (2, [.ref xa4, .ref xa5, .ref xa6, .ref xa7, .ref xa8, .ref xa9, .ref xa10, .int 0, .int 0, .int 0, .int 5, .ref xa11, .ref xa12, .ref xa13, .ref xa14]))] ∧ kX U ∧ kT (va_A [(h0, .inr (10, [.ref xa1, .ref xa3, .ref xa15, .ref xa27, .ref xa28, .ref xa33, .ref xa38, .ref xa41, .ref xa45, .ref xa46, .ref xa47, .ref xa52, .ref xa54, .int 0, .ref xa55, .ref xa60, .ref xa62, .ref xa67, .int (-1)])), (xa3, .inr (2, [.ref xa4, .ref xa5, .ref xa6, .ref xa7, .ref xa8, .ref xa9, .ref xa10, .int 0, .int 0, .int 0, .int 5, .ref xa11, .ref xa12, .ref xa13, .ref xa14]))] sz) U)) (va_Qi (fun (r : Int32) (_ : Unit) => False) (fun _ t => va_P (dC, dI) vwCl [] t.heap ∧ va_D (va_A [(h0, .inr (10, [.ref xa1, .ref xa3, .ref xa15, .ref xa27, .ref xa28, .ref xa33, .ref xa38, .ref xa41, .ref xa45, .ref xa46, .ref xa47, .ref xa52, .ref xa54, .int 0, .ref xa55, .ref xa60, .ref xa62, .ref xa67, .int (-1)])), (xa3, .inr (2, [.ref xa4, .ref xa5, .ref xa6, .ref xa7, .ref xa8, .ref xa9, .ref xa10, .int 0, .int 0, .int 0, .int 5, .ref xa11, .ref xa12, .ref xa13, .ref xa14]))] sz) []) (va_A [(h0, .inr (10, [.ref xa1, .ref xa3, .ref xa15, .ref xa27, .ref xa28, .ref xa33, .ref xa38, .ref xa41, .ref xa45, .ref xa46, .ref xa47, .ref xa52, .ref xa54, .int 0, .ref xa55, .ref xa60, .ref xa62, .ref xa67, .int (-1)])), (xa3, .inr (2, [.ref xa4, .ref xa5, .ref xa6, .ref xa7, .ref xa8, .ref xa9, .ref xa10, .int 0, .int 0, .int 0, .int 5, .ref xa11, .ref xa12, .ref xa13, .ref xa14]))] sz)) (vx_X (fun (_ : Unit) => True) (fun (E : String) (_ : Unit) (_ : State) => E = "java/util/NoSuchElementException") (va_A [(h0, .inr (10, [.ref xa1, .ref xa3, .ref xa15, .ref xa27, .ref xa28, .ref xa33, .ref xa38, .ref xa41, .ref xa45, .ref xa46, .ref xa47, .ref xa52, .ref xa54, .int 0, .ref xa55, .ref xa60, .ref xa62, .ref xa67, .int (-1)])), (xa3, .inr (2, [.ref xa4, .ref xa5, .ref xa6, .ref xa7, .ref xa8, .ref xa9, .ref xa10, .int 0, .int 0, .int 0, .int 5, .ref xa11, .ref xa12, .ref xa13, .ref xa14]))] sz)) 1 6 (va_A [(h0, .inr (10, [.ref xa1, .ref xa3, .ref xa15, .ref xa27, .ref xa28, .ref xa33, .ref xa38, .ref xa41, .ref xa45, .ref xa46, .ref xa47, .ref xa52, .ref xa54, .int 0, .ref xa55, .ref xa60, .ref xa62, .ref xa67, .int (-1)])), (xa3, .inr (2, [.ref xa4, .ref xa5, .ref xa6, .ref xa7, .ref xa8, .ref xa9, .ref xa10, .int 0, .int 0, .int 0, .int 5, .ref xa11, .ref xa12, .ref xa13, .ref xa14]))] sz) := by
  refine vx_ofW (cc := cX10_port) (maxL := 4) (ret := (some .int)) (by decide) rfl ?_
  intro p e s m args0 below meth c s₁ B hml hexT hv
  obtain ⟨hargs, hsz, hP, hE, hD0, hXs, hT⟩ := hv
  have hx := B.exec
  have hb := B.bytes
  have hr := B.returns
  have hts := atoms_spec (ws := wsX10_port) B.pre
  have hown : s.vm.findClass RX10 = some m.cls := findClass_of_methodNamed B.named
  have hlocks := B.notSynchronized
  have hK := hE.1
  have hin10 : ∀ w ∈ wsX100, w ∈ wsX10_port := fun _ h9 => List.mem_cons_of_mem _ (List.mem_append_left _ (List.mem_append_left _ (List.mem_append_left _ (List.mem_append_left _ (List.mem_append_right _ h9)))))
  have hin2 : ∀ w ∈ wsX20, w ∈ wsX10_port := fun _ h9 => List.mem_cons_of_mem _ (List.mem_append_left _ (List.mem_append_left _ (List.mem_append_left _ (List.mem_append_right _ h9))))
  have hin9 : ∀ w ∈ wsX90, w ∈ wsX10_port := fun _ h9 => List.mem_cons_of_mem _ (List.mem_append_left _ (List.mem_append_left _ (List.mem_append_right _ h9)))
  have hin0 : ∀ w ∈ wsX00, w ∈ wsX10_port := fun _ h9 => List.mem_cons_of_mem _ (List.mem_append_left _ (List.mem_append_right _ h9))
  subst hsz
  have hD := hD0.self (sz := s.heap.size)
  generalize hAe : va_A [(h0, .inr (10, [.ref xa1, .ref xa3, .ref xa15, .ref xa27, .ref xa28, .ref xa33, .ref xa38, .ref xa41, .ref xa45, .ref xa46, .ref xa47, .ref xa52, .ref xa54, .int 0, .ref xa55, .ref xa60, .ref xa62, .ref xa67, .int (-1)])), (xa3, .inr (2, [.ref xa4, .ref xa5, .ref xa6, .ref xa7, .ref xa8, .ref xa9, .ref xa10, .int 0, .int 0, .int 0, .int 5, .ref xa11, .ref xa12, .ref xa13, .ref xa14]))] s.heap.size = A at hD hT ⊢
  have hA : ∀ q : Nat, s.heap.size ≤ q → A q := fun q h => by rw [← hAe]; exact Or.inr h
  have hS : va_S A s.heap s.heap [] := va_S.rf
  have hP : va_P (dC, dI) vwCl [(h0, .inr (10, [.ref xa1, .ref xa3, .ref xa15, .ref xa27, .ref xa28, .ref xa33, .ref xa38, .ref xa41, .ref xa45, .ref xa46, .ref xa47, .ref xa52, .ref xa54, .int 0, .ref xa55, .ref xa60, .ref xa62, .ref xa67, .int (-1)])), (xa3, .inr (2, [.ref xa4, .ref xa5, .ref xa6, .ref xa7, .ref xa8, .ref xa9, .ref xa10, .int 0, .int 0, .int 0, .int 5, .ref xa11, .ref xa12, .ref xa13, .ref xa14]))] s.heap := hP
  have hl := lv_entry ([.ref h0, .int p0, .int p1]) (n := 4) (Nat.le_of_ble_eq_true rfl)
  have hla : entryFrame m args0 4 = entryFrame m ([.ref h0, .int p0, .int p1] : List Value).toArray 4 := by rw [hargs]
  rw [hla, lg_entry_eq]
  generalize (lg_sl ([.ref h0, .int p0, .int p1]) ++ List.replicate (4 - (lg_sl ([.ref h0, .int p0, .int p1])).length) Slot.unset).toArray = ls at hl ⊢
  have hl : lv_has ls 4 [(0, .ref h0), (1, .int p0), (2, .int p1)] := hl
  refine lv_aload_n hx hb dX10_port_0 rfl (lv_at hl 0 rfl) ?_
  refine lv_iload_n hx hb dX10_port_1 rfl (lv_at hl 1 rfl) ?_
  have hPc := hP.sub (ws' := [(h0, .inr (10, [.ref xa1, .ref xa3, .ref xa15, .ref xa27, .ref xa28, .ref xa33, .ref xa38, .ref xa41, .ref xa45, .ref xa46, .ref xa47, .ref xa52, .ref xa54, .int 0, .ref xa55, .ref xa60, .ref xa62, .ref xa67, .int (-1)])), (xa3, .inr (2, [.ref xa4, .ref xa5, .ref xa6, .ref xa7, .ref xa8, .ref xa9, .ref xa10, .int 0, .int 0, .int 0, .int 5, .ref xa11, .ref xa12, .ref xa13, .ref xa14]))]) [0, 1] rfl
  have hDc := hD.sub (ws' := [(h0, .inr (10, [.ref xa1, .ref xa3, .ref xa15, .ref xa27, .ref xa28, .ref xa33, .ref xa38, .ref xa41, .ref xa45, .ref xa46, .ref xa47, .ref xa52, .ref xa54, .int 0, .ref xa55, .ref xa60, .ref xa62, .ref xa67, .int (-1)])), (xa3, .inr (2, [.ref xa4, .ref xa5, .ref xa6, .ref xa7, .ref xa8, .ref xa9, .ref xa10, .int 0, .int 0, .int 0, .int 5, .ref xa11, .ref xa12, .ref xa13, .ref xa14]))]) [0, 1] (by decide) rfl
  have hFc := va_free (wc := [(h0, .inr (10, [.ref xa1, .ref xa3, .ref xa15, .ref xa27, .ref xa28, .ref xa33, .ref xa38, .ref xa41, .ref xa45, .ref xa46, .ref xa47, .ref xa52, .ref xa54, .int 0, .ref xa55, .ref xa60, .ref xa62, .ref xa67, .int (-1)])), (xa3, .inr (2, [.ref xa4, .ref xa5, .ref xa6, .ref xa7, .ref xa8, .ref xa9, .ref xa10, .int 0, .int 0, .int 0, .int 5, .ref xa11, .ref xa12, .ref xa13, .ref xa14]))]) hD hS hA [0, 1] rfl
  refine vx_callv (vx_runV (As := [.int p0]) (rest := []) ⟨hx, hb, hml, hown, hts⟩ (k10_mustBeGoal l hst dC dI kB kI kJ kZ kC kS s.heap.size h0 xa1 xa3 xa15 xa27 xa28 xa33 xa38 xa41 xa45 xa46 xa47 xa52 xa54 xa55 xa60 xa62 xa67 xa4 xa5 xa6 xa7 xa8 xa9 xa10 xa11 xa12 xa13 xa14 p0) (cwV 1 hts gX10_port_X10_mustBeGoal rfl rfl rfl (by decide +kernel) ⟨Nat.le_of_ble_eq_true rfl, Nat.le_of_ble_eq_true rfl⟩) ⟨fun a U g mk q => by obtain ⟨q0, q1, qP, qE, qD, qX, qT⟩ := q; exact ⟨q0, q1, qP, kE_call qE, qD, kX_call qX, kT_call qT⟩, va_recv hK hP (ci := 10) (q0 := 0) rfl rfl, fun U hU hW => ⟨rfl, by rw [hU], by rw [hU]; exact hPc, kE_warm hW hE, hDc.weaken (fun _ _ _ _ => trivial), kX_warm hW hXs, kT_at hT hS hFc hW hU⟩⟩ rfl rfl hl.1 rfl (lv_room (Nat.le_of_ble_eq_true rfl)) dX10_port_2 ⟨Nat.le_of_ble_eq_true rfl, Nat.le_of_ble_eq_true rfl⟩) hS (fun q _ h => hFc q h) hFc (fun q _ h => hFc q h) (fun E ce q9 u t H1 locs ht hvm hpx hBX hz1 hk1 hS hc9 hv9 hcl9 => ?_) (fun u t H1 locs ht hvm w2 hB hz1 hk1 hS => ?_)
  · exact vx_out (fun x h9 => (hexT x h9).elim) hlocks hc9 hv9 hcl9 (fun t9 ht9 hvm9 => ⟨(), trivial, hBX, hS.F ht9⟩) hS.2.2 (Nat.le_of_ble_eq_true rfl) (Nat.le_of_ble_eq_true rfl)
  · exact w2.elim
def rm_k10_use : Room := { frames := 7, cells := 1, slots := 6, locals := 103 }
set_option maxHeartbeats 4000000 in
set_option maxRecDepth 100000 in
theorem k10_use (l : Launch) (hst : l.stackTraces = false) (dC : Nat → ClassId) (dI : Nat → Nat → Nat) (kB kI kJ kZ kC kS : ClassId) (sz : Nat) (h0 : Nat) (xa1 : Nat) (xa3 : Nat) (xa15 : Nat) (xa27 : Nat) (xa28 : Nat) (xa33 : Nat) (xa38 : Nat) (xa41 : Nat) (xa45 : Nat) (xa46 : Nat) (xa47 : Nat) (xa52 : Nat) (xa54 : Nat) (xa55 : Nat) (xa60 : Nat) (xa62 : Nat) (xa67 : Nat) (xa4 : Nat) (xa5 : Nat) (xa6 : Nat) (xa7 : Nat) (xa8 : Nat) (xa9 : Nat) (xa10 : Nat) (xa11 : Nat) (xa12 : Nat) (xa13 : Nat) (xa14 : Nat) (p0 : Int32) (p1 : Int32) : vx_Met l yX10_use wsX10_use rm_k10_use (va_Pc [.ref h0, .int p0, .int p1] (fun U => U.heap.size = sz ∧ va_P (dC, dI) vwCl [(h0, .inr (10, [.ref xa1, .ref xa3, .ref xa15, .ref xa27, .ref xa28, .ref xa33, .ref xa38, .ref xa41, .ref xa45, .ref xa46, .ref xa47, .ref xa52, .ref xa54, .int 0, .ref xa55, .ref xa60, .ref xa62, .ref xa67, .int (-1)])), (xa3, .inr (2, [.ref xa4, .ref xa5, .ref xa6, .ref xa7, .ref xa8, .ref xa9, .ref xa10, .int 0, .int 0, .int 0, .int 5, .ref xa11, .ref xa12, .ref xa13, .ref xa14]))] U.heap ∧ kE dC dI kB kI kJ kZ kC kS U ∧ va_D (fun _ => True) [(h0, .inr (10, [.ref xa1, .ref xa3, .ref xa15, .ref xa27, .ref xa28, .ref xa33, .ref xa38, .ref xa41, .ref xa45, .ref xa46, .ref xa47, .ref xa52, .ref xa54, .int 0, .ref xa55, .ref xa60, .ref xa62, .ref xa67, .int (-1)])), (xa3, .inr (2, [.ref xa4, .ref xa5, .ref xa6, .ref xa7, .ref xa8, .ref xa9, .ref xa10, .int 0, .int 0, .int 0, .int 5, .ref xa11, .ref xa12, .ref xa13, .ref xa14]))] ∧ kX U ∧ kT (va_A [(h0, .inr (10, [.ref xa1, .ref xa3, .ref xa15, .ref xa27, .ref xa28, .ref xa33, .ref xa38, .ref xa41, .ref xa45, .ref xa46, .ref xa47, .ref xa52, .ref xa54, .int 0, .ref xa55, .ref xa60, .ref xa62, .ref xa67, .int (-1)])), (xa3, .inr (2, [.ref xa4, .ref xa5, .ref xa6, .ref xa7, .ref xa8, .ref xa9, .ref xa10, .int 0, .int 0, .int 0, .int 5, .ref xa11, .ref xa12, .ref xa13, .ref xa14]))] sz) U)) (va_Qi (fun (r : Int32) (_ : Unit) => False) (fun _ t => va_P (dC, dI) vwCl [] t.heap ∧ va_D (va_A [(h0, .inr (10, [.ref xa1, .ref xa3, .ref xa15, .ref xa27, .ref xa28, .ref xa33, .ref xa38, .ref xa41, .ref xa45, .ref xa46, .ref xa47, .ref xa52, .ref xa54, .int 0, .ref xa55, .ref xa60, .ref xa62, .ref xa67, .int (-1)])), (xa3, .inr (2, [.ref xa4, .ref xa5, .ref xa6, .ref xa7, .ref xa8, .ref xa9, .ref xa10, .int 0, .int 0, .int 0, .int 5, .ref xa11, .ref xa12, .ref xa13, .ref xa14]))] sz) []) (va_A [(h0, .inr (10, [.ref xa1, .ref xa3, .ref xa15, .ref xa27, .ref xa28, .ref xa33, .ref xa38, .ref xa41, .ref xa45, .ref xa46, .ref xa47, .ref xa52, .ref xa54, .int 0, .ref xa55, .ref xa60, .ref xa62, .ref xa67, .int (-1)])), (xa3, .inr (2, [.ref xa4, .ref xa5, .ref xa6, .ref xa7, .ref xa8, .ref xa9, .ref xa10, .int 0, .int 0, .int 0, .int 5, .ref xa11, .ref xa12, .ref xa13, .ref xa14]))] sz)) (vx_X (fun (_ : Unit) => True) (fun (E : String) (_ : Unit) (_ : State) => E = "java/util/NoSuchElementException") (va_A [(h0, .inr (10, [.ref xa1, .ref xa3, .ref xa15, .ref xa27, .ref xa28, .ref xa33, .ref xa38, .ref xa41, .ref xa45, .ref xa46, .ref xa47, .ref xa52, .ref xa54, .int 0, .ref xa55, .ref xa60, .ref xa62, .ref xa67, .int (-1)])), (xa3, .inr (2, [.ref xa4, .ref xa5, .ref xa6, .ref xa7, .ref xa8, .ref xa9, .ref xa10, .int 0, .int 0, .int 0, .int 5, .ref xa11, .ref xa12, .ref xa13, .ref xa14]))] sz)) 1 6 (va_A [(h0, .inr (10, [.ref xa1, .ref xa3, .ref xa15, .ref xa27, .ref xa28, .ref xa33, .ref xa38, .ref xa41, .ref xa45, .ref xa46, .ref xa47, .ref xa52, .ref xa54, .int 0, .ref xa55, .ref xa60, .ref xa62, .ref xa67, .int (-1)])), (xa3, .inr (2, [.ref xa4, .ref xa5, .ref xa6, .ref xa7, .ref xa8, .ref xa9, .ref xa10, .int 0, .int 0, .int 0, .int 5, .ref xa11, .ref xa12, .ref xa13, .ref xa14]))] sz) := by
  refine vx_ofW (cc := cX10_use) (maxL := 5) (ret := (some .int)) (by decide) rfl ?_
  intro p e s m args0 below meth c s₁ B hml hexT hv
  obtain ⟨hargs, hsz, hP, hE, hD0, hXs, hT⟩ := hv
  have hx := B.exec
  have hb := B.bytes
  have hr := B.returns
  have hts := atoms_spec (ws := wsX10_use) B.pre
  have hown : s.vm.findClass RX10 = some m.cls := findClass_of_methodNamed B.named
  have hlocks := B.notSynchronized
  have hK := hE.1
  have hin10 : ∀ w ∈ wsX100, w ∈ wsX10_use := fun _ h9 => List.mem_cons_of_mem _ (List.mem_append_left _ (List.mem_append_left _ (List.mem_append_left _ (List.mem_append_left _ (List.mem_append_right _ h9)))))
  have hin2 : ∀ w ∈ wsX20, w ∈ wsX10_use := fun _ h9 => List.mem_cons_of_mem _ (List.mem_append_left _ (List.mem_append_left _ (List.mem_append_left _ (List.mem_append_right _ h9))))
  have hin9 : ∀ w ∈ wsX90, w ∈ wsX10_use := fun _ h9 => List.mem_cons_of_mem _ (List.mem_append_left _ (List.mem_append_left _ (List.mem_append_right _ h9)))
  have hin0 : ∀ w ∈ wsX00, w ∈ wsX10_use := fun _ h9 => List.mem_cons_of_mem _ (List.mem_append_left _ (List.mem_append_right _ h9))
  subst hsz
  have hD := hD0.self (sz := s.heap.size)
  generalize hAe : va_A [(h0, .inr (10, [.ref xa1, .ref xa3, .ref xa15, .ref xa27, .ref xa28, .ref xa33, .ref xa38, .ref xa41, .ref xa45, .ref xa46, .ref xa47, .ref xa52, .ref xa54, .int 0, .ref xa55, .ref xa60, .ref xa62, .ref xa67, .int (-1)])), (xa3, .inr (2, [.ref xa4, .ref xa5, .ref xa6, .ref xa7, .ref xa8, .ref xa9, .ref xa10, .int 0, .int 0, .int 0, .int 5, .ref xa11, .ref xa12, .ref xa13, .ref xa14]))] s.heap.size = A at hD hT ⊢
  have hA : ∀ q : Nat, s.heap.size ≤ q → A q := fun q h => by rw [← hAe]; exact Or.inr h
  have hS : va_S A s.heap s.heap [] := va_S.rf
  have hP : va_P (dC, dI) vwCl [(h0, .inr (10, [.ref xa1, .ref xa3, .ref xa15, .ref xa27, .ref xa28, .ref xa33, .ref xa38, .ref xa41, .ref xa45, .ref xa46, .ref xa47, .ref xa52, .ref xa54, .int 0, .ref xa55, .ref xa60, .ref xa62, .ref xa67, .int (-1)])), (xa3, .inr (2, [.ref xa4, .ref xa5, .ref xa6, .ref xa7, .ref xa8, .ref xa9, .ref xa10, .int 0, .int 0, .int 0, .int 5, .ref xa11, .ref xa12, .ref xa13, .ref xa14]))] s.heap := hP
  have hl := lv_entry ([.ref h0, .int p0, .int p1]) (n := 5) (Nat.le_of_ble_eq_true rfl)
  have hla : entryFrame m args0 5 = entryFrame m ([.ref h0, .int p0, .int p1] : List Value).toArray 5 := by rw [hargs]
  rw [hla, lg_entry_eq]
  generalize (lg_sl ([.ref h0, .int p0, .int p1]) ++ List.replicate (5 - (lg_sl ([.ref h0, .int p0, .int p1])).length) Slot.unset).toArray = ls at hl ⊢
  have hl : lv_has ls 5 [(0, .ref h0), (1, .int p0), (2, .int p1)] := hl
  refine lv_aload_n hx hb dX10_use_0 rfl (lv_at hl 0 rfl) ?_
  refine lv_iload_n hx hb dX10_use_1 rfl (lv_at hl 1 rfl) ?_
  have hPc := hP.sub (ws' := [(h0, .inr (10, [.ref xa1, .ref xa3, .ref xa15, .ref xa27, .ref xa28, .ref xa33, .ref xa38, .ref xa41, .ref xa45, .ref xa46, .ref xa47, .ref xa52, .ref xa54, .int 0, .ref xa55, .ref xa60, .ref xa62, .ref xa67, .int (-1)])), (xa3, .inr (2, [.ref xa4, .ref xa5, .ref xa6, .ref xa7, .ref xa8, .ref xa9, .ref xa10, .int 0, .int 0, .int 0, .int 5, .ref xa11, .ref xa12, .ref xa13, .ref xa14]))]) [0, 1] rfl
  have hDc := hD.sub (ws' := [(h0, .inr (10, [.ref xa1, .ref xa3, .ref xa15, .ref xa27, .ref xa28, .ref xa33, .ref xa38, .ref xa41, .ref xa45, .ref xa46, .ref xa47, .ref xa52, .ref xa54, .int 0, .ref xa55, .ref xa60, .ref xa62, .ref xa67, .int (-1)])), (xa3, .inr (2, [.ref xa4, .ref xa5, .ref xa6, .ref xa7, .ref xa8, .ref xa9, .ref xa10, .int 0, .int 0, .int 0, .int 5, .ref xa11, .ref xa12, .ref xa13, .ref xa14]))]) [0, 1] (by decide) rfl
  have hFc := va_free (wc := [(h0, .inr (10, [.ref xa1, .ref xa3, .ref xa15, .ref xa27, .ref xa28, .ref xa33, .ref xa38, .ref xa41, .ref xa45, .ref xa46, .ref xa47, .ref xa52, .ref xa54, .int 0, .ref xa55, .ref xa60, .ref xa62, .ref xa67, .int (-1)])), (xa3, .inr (2, [.ref xa4, .ref xa5, .ref xa6, .ref xa7, .ref xa8, .ref xa9, .ref xa10, .int 0, .int 0, .int 0, .int 5, .ref xa11, .ref xa12, .ref xa13, .ref xa14]))]) hD hS hA [0, 1] rfl
  refine vx_callv (vx_runV (As := [.int p0]) (rest := []) ⟨hx, hb, hml, hown, hts⟩ (k10_mustBeGoal l hst dC dI kB kI kJ kZ kC kS s.heap.size h0 xa1 xa3 xa15 xa27 xa28 xa33 xa38 xa41 xa45 xa46 xa47 xa52 xa54 xa55 xa60 xa62 xa67 xa4 xa5 xa6 xa7 xa8 xa9 xa10 xa11 xa12 xa13 xa14 p0) (cwV 1 hts gX10_use_X10_mustBeGoal rfl rfl rfl (by decide +kernel) ⟨Nat.le_of_ble_eq_true rfl, Nat.le_of_ble_eq_true rfl⟩) ⟨fun a U g mk q => by obtain ⟨q0, q1, qP, qE, qD, qX, qT⟩ := q; exact ⟨q0, q1, qP, kE_call qE, qD, kX_call qX, kT_call qT⟩, va_recv hK hP (ci := 10) (q0 := 0) rfl rfl, fun U hU hW => ⟨rfl, by rw [hU], by rw [hU]; exact hPc, kE_warm hW hE, hDc.weaken (fun _ _ _ _ => trivial), kX_warm hW hXs, kT_at hT hS hFc hW hU⟩⟩ rfl rfl hl.1 rfl (lv_room (Nat.le_of_ble_eq_true rfl)) dX10_use_2 ⟨Nat.le_of_ble_eq_true rfl, Nat.le_of_ble_eq_true rfl⟩) hS (fun q _ h => hFc q h) hFc (fun q _ h => hFc q h) (fun E ce q9 u t H1 locs ht hvm hpx hBX hz1 hk1 hS hc9 hv9 hcl9 => ?_) (fun u t H1 locs ht hvm w2 hB hz1 hk1 hS => ?_)
  · exact vx_out (fun x h9 => (hexT x h9).elim) hlocks hc9 hv9 hcl9 (fun t9 ht9 hvm9 => ⟨(), trivial, hBX, hS.F ht9⟩) hS.2.2 (Nat.le_of_ble_eq_true rfl) (Nat.le_of_ble_eq_true rfl)
  · exact w2.elim
def rm_k10_cover : Room := { frames := 7, cells := 1, slots := 6, locals := 103 }
set_option maxHeartbeats 4000000 in
set_option maxRecDepth 100000 in
theorem k10_cover (l : Launch) (hst : l.stackTraces = false) (dC : Nat → ClassId) (dI : Nat → Nat → Nat) (kB kI kJ kZ kC kS : ClassId) (sz : Nat) (h0 : Nat) (xa1 : Nat) (xa3 : Nat) (xa15 : Nat) (xa27 : Nat) (xa28 : Nat) (xa33 : Nat) (xa38 : Nat) (xa41 : Nat) (xa45 : Nat) (xa46 : Nat) (xa47 : Nat) (xa52 : Nat) (xa54 : Nat) (xa55 : Nat) (xa60 : Nat) (xa62 : Nat) (xa67 : Nat) (xa4 : Nat) (xa5 : Nat) (xa6 : Nat) (xa7 : Nat) (xa8 : Nat) (xa9 : Nat) (xa10 : Nat) (xa11 : Nat) (xa12 : Nat) (xa13 : Nat) (xa14 : Nat) (p0 : Int32) : vx_Met l yX10_cover wsX10_cover rm_k10_cover (va_Pc [.ref h0, .int p0] (fun U => U.heap.size = sz ∧ va_P (dC, dI) vwCl [(h0, .inr (10, [.ref xa1, .ref xa3, .ref xa15, .ref xa27, .ref xa28, .ref xa33, .ref xa38, .ref xa41, .ref xa45, .ref xa46, .ref xa47, .ref xa52, .ref xa54, .int 0, .ref xa55, .ref xa60, .ref xa62, .ref xa67, .int (-1)])), (xa3, .inr (2, [.ref xa4, .ref xa5, .ref xa6, .ref xa7, .ref xa8, .ref xa9, .ref xa10, .int 0, .int 0, .int 0, .int 5, .ref xa11, .ref xa12, .ref xa13, .ref xa14]))] U.heap ∧ kE dC dI kB kI kJ kZ kC kS U ∧ va_D (fun _ => True) [(h0, .inr (10, [.ref xa1, .ref xa3, .ref xa15, .ref xa27, .ref xa28, .ref xa33, .ref xa38, .ref xa41, .ref xa45, .ref xa46, .ref xa47, .ref xa52, .ref xa54, .int 0, .ref xa55, .ref xa60, .ref xa62, .ref xa67, .int (-1)])), (xa3, .inr (2, [.ref xa4, .ref xa5, .ref xa6, .ref xa7, .ref xa8, .ref xa9, .ref xa10, .int 0, .int 0, .int 0, .int 5, .ref xa11, .ref xa12, .ref xa13, .ref xa14]))] ∧ kX U ∧ kT (va_A [(h0, .inr (10, [.ref xa1, .ref xa3, .ref xa15, .ref xa27, .ref xa28, .ref xa33, .ref xa38, .ref xa41, .ref xa45, .ref xa46, .ref xa47, .ref xa52, .ref xa54, .int 0, .ref xa55, .ref xa60, .ref xa62, .ref xa67, .int (-1)])), (xa3, .inr (2, [.ref xa4, .ref xa5, .ref xa6, .ref xa7, .ref xa8, .ref xa9, .ref xa10, .int 0, .int 0, .int 0, .int 5, .ref xa11, .ref xa12, .ref xa13, .ref xa14]))] sz) U)) (va_Qi (fun (r : Int32) (_ : Unit) => False) (fun _ t => va_P (dC, dI) vwCl [] t.heap ∧ va_D (va_A [(h0, .inr (10, [.ref xa1, .ref xa3, .ref xa15, .ref xa27, .ref xa28, .ref xa33, .ref xa38, .ref xa41, .ref xa45, .ref xa46, .ref xa47, .ref xa52, .ref xa54, .int 0, .ref xa55, .ref xa60, .ref xa62, .ref xa67, .int (-1)])), (xa3, .inr (2, [.ref xa4, .ref xa5, .ref xa6, .ref xa7, .ref xa8, .ref xa9, .ref xa10, .int 0, .int 0, .int 0, .int 5, .ref xa11, .ref xa12, .ref xa13, .ref xa14]))] sz) []) (va_A [(h0, .inr (10, [.ref xa1, .ref xa3, .ref xa15, .ref xa27, .ref xa28, .ref xa33, .ref xa38, .ref xa41, .ref xa45, .ref xa46, .ref xa47, .ref xa52, .ref xa54, .int 0, .ref xa55, .ref xa60, .ref xa62, .ref xa67, .int (-1)])), (xa3, .inr (2, [.ref xa4, .ref xa5, .ref xa6, .ref xa7, .ref xa8, .ref xa9, .ref xa10, .int 0, .int 0, .int 0, .int 5, .ref xa11, .ref xa12, .ref xa13, .ref xa14]))] sz)) (vx_X (fun (_ : Unit) => True) (fun (E : String) (_ : Unit) (_ : State) => E = "java/util/NoSuchElementException") (va_A [(h0, .inr (10, [.ref xa1, .ref xa3, .ref xa15, .ref xa27, .ref xa28, .ref xa33, .ref xa38, .ref xa41, .ref xa45, .ref xa46, .ref xa47, .ref xa52, .ref xa54, .int 0, .ref xa55, .ref xa60, .ref xa62, .ref xa67, .int (-1)])), (xa3, .inr (2, [.ref xa4, .ref xa5, .ref xa6, .ref xa7, .ref xa8, .ref xa9, .ref xa10, .int 0, .int 0, .int 0, .int 5, .ref xa11, .ref xa12, .ref xa13, .ref xa14]))] sz)) 1 6 (va_A [(h0, .inr (10, [.ref xa1, .ref xa3, .ref xa15, .ref xa27, .ref xa28, .ref xa33, .ref xa38, .ref xa41, .ref xa45, .ref xa46, .ref xa47, .ref xa52, .ref xa54, .int 0, .ref xa55, .ref xa60, .ref xa62, .ref xa67, .int (-1)])), (xa3, .inr (2, [.ref xa4, .ref xa5, .ref xa6, .ref xa7, .ref xa8, .ref xa9, .ref xa10, .int 0, .int 0, .int 0, .int 5, .ref xa11, .ref xa12, .ref xa13, .ref xa14]))] sz) := by
  refine vx_ofW (cc := cX10_cover) (maxL := 4) (ret := (some .int)) (by decide) rfl ?_
  intro p e s m args0 below meth c s₁ B hml hexT hv
  obtain ⟨hargs, hsz, hP, hE, hD0, hXs, hT⟩ := hv
  have hx := B.exec
  have hb := B.bytes
  have hr := B.returns
  have hts := atoms_spec (ws := wsX10_cover) B.pre
  have hown : s.vm.findClass RX10 = some m.cls := findClass_of_methodNamed B.named
  have hlocks := B.notSynchronized
  have hK := hE.1
  have hin10 : ∀ w ∈ wsX100, w ∈ wsX10_cover := fun _ h9 => List.mem_cons_of_mem _ (List.mem_append_left _ (List.mem_append_left _ (List.mem_append_left _ (List.mem_append_left _ (List.mem_append_right _ h9)))))
  have hin9 : ∀ w ∈ wsX90, w ∈ wsX10_cover := fun _ h9 => List.mem_cons_of_mem _ (List.mem_append_left _ (List.mem_append_left _ (List.mem_append_left _ (List.mem_append_right _ h9))))
  have hin2 : ∀ w ∈ wsX20, w ∈ wsX10_cover := fun _ h9 => List.mem_cons_of_mem _ (List.mem_append_left _ (List.mem_append_left _ (List.mem_append_right _ h9)))
  have hin0 : ∀ w ∈ wsX00, w ∈ wsX10_cover := fun _ h9 => List.mem_cons_of_mem _ (List.mem_append_left _ (List.mem_append_right _ h9))
  subst hsz
  have hD := hD0.self (sz := s.heap.size)
  generalize hAe : va_A [(h0, .inr (10, [.ref xa1, .ref xa3, .ref xa15, .ref xa27, .ref xa28, .ref xa33, .ref xa38, .ref xa41, .ref xa45, .ref xa46, .ref xa47, .ref xa52, .ref xa54, .int 0, .ref xa55, .ref xa60, .ref xa62, .ref xa67, .int (-1)])), (xa3, .inr (2, [.ref xa4, .ref xa5, .ref xa6, .ref xa7, .ref xa8, .ref xa9, .ref xa10, .int 0, .int 0, .int 0, .int 5, .ref xa11, .ref xa12, .ref xa13, .ref xa14]))] s.heap.size = A at hD hT ⊢
  have hA : ∀ q : Nat, s.heap.size ≤ q → A q := fun q h => by rw [← hAe]; exact Or.inr h
  have hS : va_S A s.heap s.heap [] := va_S.rf
  have hP : va_P (dC, dI) vwCl [(h0, .inr (10, [.ref xa1, .ref xa3, .ref xa15, .ref xa27, .ref xa28, .ref xa33, .ref xa38, .ref xa41, .ref xa45, .ref xa46, .ref xa47, .ref xa52, .ref xa54, .int 0, .ref xa55, .ref xa60, .ref xa62, .ref xa67, .int (-1)])), (xa3, .inr (2, [.ref xa4, .ref xa5, .ref xa6, .ref xa7, .ref xa8, .ref xa9, .ref xa10, .int 0, .int 0, .int 0, .int 5, .ref xa11, .ref xa12, .ref xa13, .ref xa14]))] s.heap := hP
  have hl := lv_entry ([.ref h0, .int p0]) (n := 4) (Nat.le_of_ble_eq_true rfl)
  have hla : entryFrame m args0 4 = entryFrame m ([.ref h0, .int p0] : List Value).toArray 4 := by rw [hargs]
  rw [hla, lg_entry_eq]
  generalize (lg_sl ([.ref h0, .int p0]) ++ List.replicate (4 - (lg_sl ([.ref h0, .int p0])).length) Slot.unset).toArray = ls at hl ⊢
  have hl : lv_has ls 4 [(0, .ref h0), (1, .int p0)] := hl
  refine lv_aload_n hx hb dX10_cover_0 rfl (lv_at hl 0 rfl) ?_
  refine lv_iload_n hx hb dX10_cover_1 rfl (lv_at hl 1 rfl) ?_
  have hPc := hP.sub (ws' := [(h0, .inr (10, [.ref xa1, .ref xa3, .ref xa15, .ref xa27, .ref xa28, .ref xa33, .ref xa38, .ref xa41, .ref xa45, .ref xa46, .ref xa47, .ref xa52, .ref xa54, .int 0, .ref xa55, .ref xa60, .ref xa62, .ref xa67, .int (-1)])), (xa3, .inr (2, [.ref xa4, .ref xa5, .ref xa6, .ref xa7, .ref xa8, .ref xa9, .ref xa10, .int 0, .int 0, .int 0, .int 5, .ref xa11, .ref xa12, .ref xa13, .ref xa14]))]) [0, 1] rfl
  have hDc := hD.sub (ws' := [(h0, .inr (10, [.ref xa1, .ref xa3, .ref xa15, .ref xa27, .ref xa28, .ref xa33, .ref xa38, .ref xa41, .ref xa45, .ref xa46, .ref xa47, .ref xa52, .ref xa54, .int 0, .ref xa55, .ref xa60, .ref xa62, .ref xa67, .int (-1)])), (xa3, .inr (2, [.ref xa4, .ref xa5, .ref xa6, .ref xa7, .ref xa8, .ref xa9, .ref xa10, .int 0, .int 0, .int 0, .int 5, .ref xa11, .ref xa12, .ref xa13, .ref xa14]))]) [0, 1] (by decide) rfl
  have hFc := va_free (wc := [(h0, .inr (10, [.ref xa1, .ref xa3, .ref xa15, .ref xa27, .ref xa28, .ref xa33, .ref xa38, .ref xa41, .ref xa45, .ref xa46, .ref xa47, .ref xa52, .ref xa54, .int 0, .ref xa55, .ref xa60, .ref xa62, .ref xa67, .int (-1)])), (xa3, .inr (2, [.ref xa4, .ref xa5, .ref xa6, .ref xa7, .ref xa8, .ref xa9, .ref xa10, .int 0, .int 0, .int 0, .int 5, .ref xa11, .ref xa12, .ref xa13, .ref xa14]))]) hD hS hA [0, 1] rfl
  refine vx_callv (vx_runV (As := [.int p0]) (rest := []) ⟨hx, hb, hml, hown, hts⟩ (k10_mustBeGoal l hst dC dI kB kI kJ kZ kC kS s.heap.size h0 xa1 xa3 xa15 xa27 xa28 xa33 xa38 xa41 xa45 xa46 xa47 xa52 xa54 xa55 xa60 xa62 xa67 xa4 xa5 xa6 xa7 xa8 xa9 xa10 xa11 xa12 xa13 xa14 p0) (cwV 1 hts gX10_cover_X10_mustBeGoal rfl rfl rfl (by decide +kernel) ⟨Nat.le_of_ble_eq_true rfl, Nat.le_of_ble_eq_true rfl⟩) ⟨fun a U g mk q => by obtain ⟨q0, q1, qP, qE, qD, qX, qT⟩ := q; exact ⟨q0, q1, qP, kE_call qE, qD, kX_call qX, kT_call qT⟩, va_recv hK hP (ci := 10) (q0 := 0) rfl rfl, fun U hU hW => ⟨rfl, by rw [hU], by rw [hU]; exact hPc, kE_warm hW hE, hDc.weaken (fun _ _ _ _ => trivial), kX_warm hW hXs, kT_at hT hS hFc hW hU⟩⟩ rfl rfl hl.1 rfl (lv_room (Nat.le_of_ble_eq_true rfl)) dX10_cover_2 ⟨Nat.le_of_ble_eq_true rfl, Nat.le_of_ble_eq_true rfl⟩) hS (fun q _ h => hFc q h) hFc (fun q _ h => hFc q h) (fun E ce q9 u t H1 locs ht hvm hpx hBX hz1 hk1 hS hc9 hv9 hcl9 => ?_) (fun u t H1 locs ht hvm w2 hB hz1 hk1 hS => ?_)
  · exact vx_out (fun x h9 => (hexT x h9).elim) hlocks hc9 hv9 hcl9 (fun t9 ht9 hvm9 => ⟨(), trivial, hBX, hS.F ht9⟩) hS.2.2 (Nat.le_of_ble_eq_true rfl) (Nat.le_of_ble_eq_true rfl)
  · exact w2.elim
def rm_k10_fits : Room := { frames := 7, cells := 1, slots := 6, locals := 103 }
set_option maxHeartbeats 4000000 in
set_option maxRecDepth 100000 in
theorem k10_fits (l : Launch) (hst : l.stackTraces = false) (dC : Nat → ClassId) (dI : Nat → Nat → Nat) (kB kI kJ kZ kC kS : ClassId) (sz : Nat) (h0 : Nat) (xa1 : Nat) (xa3 : Nat) (xa15 : Nat) (xa27 : Nat) (xa28 : Nat) (xa33 : Nat) (xa38 : Nat) (xa41 : Nat) (xa45 : Nat) (xa46 : Nat) (xa47 : Nat) (xa52 : Nat) (xa54 : Nat) (xa55 : Nat) (xa60 : Nat) (xa62 : Nat) (xa67 : Nat) (xa4 : Nat) (xa5 : Nat) (xa6 : Nat) (xa7 : Nat) (xa8 : Nat) (xa9 : Nat) (xa10 : Nat) (xa11 : Nat) (xa12 : Nat) (xa13 : Nat) (xa14 : Nat) (p0 : Int32) (p1 : Int32) : vx_Met l yX10_fits wsX10_fits rm_k10_fits (va_Pc [.ref h0, .int p0, .int p1] (fun U => U.heap.size = sz ∧ va_P (dC, dI) vwCl [(h0, .inr (10, [.ref xa1, .ref xa3, .ref xa15, .ref xa27, .ref xa28, .ref xa33, .ref xa38, .ref xa41, .ref xa45, .ref xa46, .ref xa47, .ref xa52, .ref xa54, .int 0, .ref xa55, .ref xa60, .ref xa62, .ref xa67, .int (-1)])), (xa3, .inr (2, [.ref xa4, .ref xa5, .ref xa6, .ref xa7, .ref xa8, .ref xa9, .ref xa10, .int 0, .int 0, .int 0, .int 5, .ref xa11, .ref xa12, .ref xa13, .ref xa14]))] U.heap ∧ kE dC dI kB kI kJ kZ kC kS U ∧ va_D (fun _ => True) [(h0, .inr (10, [.ref xa1, .ref xa3, .ref xa15, .ref xa27, .ref xa28, .ref xa33, .ref xa38, .ref xa41, .ref xa45, .ref xa46, .ref xa47, .ref xa52, .ref xa54, .int 0, .ref xa55, .ref xa60, .ref xa62, .ref xa67, .int (-1)])), (xa3, .inr (2, [.ref xa4, .ref xa5, .ref xa6, .ref xa7, .ref xa8, .ref xa9, .ref xa10, .int 0, .int 0, .int 0, .int 5, .ref xa11, .ref xa12, .ref xa13, .ref xa14]))] ∧ kX U ∧ kT (va_A [(h0, .inr (10, [.ref xa1, .ref xa3, .ref xa15, .ref xa27, .ref xa28, .ref xa33, .ref xa38, .ref xa41, .ref xa45, .ref xa46, .ref xa47, .ref xa52, .ref xa54, .int 0, .ref xa55, .ref xa60, .ref xa62, .ref xa67, .int (-1)])), (xa3, .inr (2, [.ref xa4, .ref xa5, .ref xa6, .ref xa7, .ref xa8, .ref xa9, .ref xa10, .int 0, .int 0, .int 0, .int 5, .ref xa11, .ref xa12, .ref xa13, .ref xa14]))] sz) U)) (va_Qi (fun (r : Int32) (_ : Unit) => False) (fun _ t => va_P (dC, dI) vwCl [] t.heap ∧ va_D (va_A [(h0, .inr (10, [.ref xa1, .ref xa3, .ref xa15, .ref xa27, .ref xa28, .ref xa33, .ref xa38, .ref xa41, .ref xa45, .ref xa46, .ref xa47, .ref xa52, .ref xa54, .int 0, .ref xa55, .ref xa60, .ref xa62, .ref xa67, .int (-1)])), (xa3, .inr (2, [.ref xa4, .ref xa5, .ref xa6, .ref xa7, .ref xa8, .ref xa9, .ref xa10, .int 0, .int 0, .int 0, .int 5, .ref xa11, .ref xa12, .ref xa13, .ref xa14]))] sz) []) (va_A [(h0, .inr (10, [.ref xa1, .ref xa3, .ref xa15, .ref xa27, .ref xa28, .ref xa33, .ref xa38, .ref xa41, .ref xa45, .ref xa46, .ref xa47, .ref xa52, .ref xa54, .int 0, .ref xa55, .ref xa60, .ref xa62, .ref xa67, .int (-1)])), (xa3, .inr (2, [.ref xa4, .ref xa5, .ref xa6, .ref xa7, .ref xa8, .ref xa9, .ref xa10, .int 0, .int 0, .int 0, .int 5, .ref xa11, .ref xa12, .ref xa13, .ref xa14]))] sz)) (vx_X (fun (_ : Unit) => True) (fun (E : String) (_ : Unit) (_ : State) => E = "java/util/NoSuchElementException") (va_A [(h0, .inr (10, [.ref xa1, .ref xa3, .ref xa15, .ref xa27, .ref xa28, .ref xa33, .ref xa38, .ref xa41, .ref xa45, .ref xa46, .ref xa47, .ref xa52, .ref xa54, .int 0, .ref xa55, .ref xa60, .ref xa62, .ref xa67, .int (-1)])), (xa3, .inr (2, [.ref xa4, .ref xa5, .ref xa6, .ref xa7, .ref xa8, .ref xa9, .ref xa10, .int 0, .int 0, .int 0, .int 5, .ref xa11, .ref xa12, .ref xa13, .ref xa14]))] sz)) 1 6 (va_A [(h0, .inr (10, [.ref xa1, .ref xa3, .ref xa15, .ref xa27, .ref xa28, .ref xa33, .ref xa38, .ref xa41, .ref xa45, .ref xa46, .ref xa47, .ref xa52, .ref xa54, .int 0, .ref xa55, .ref xa60, .ref xa62, .ref xa67, .int (-1)])), (xa3, .inr (2, [.ref xa4, .ref xa5, .ref xa6, .ref xa7, .ref xa8, .ref xa9, .ref xa10, .int 0, .int 0, .int 0, .int 5, .ref xa11, .ref xa12, .ref xa13, .ref xa14]))] sz) := by
  refine vx_ofW (cc := cX10_fits) (maxL := 5) (ret := (some .int)) (by decide) rfl ?_
  intro p e s m args0 below meth c s₁ B hml hexT hv
  obtain ⟨hargs, hsz, hP, hE, hD0, hXs, hT⟩ := hv
  have hx := B.exec
  have hb := B.bytes
  have hr := B.returns
  have hts := atoms_spec (ws := wsX10_fits) B.pre
  have hown : s.vm.findClass RX10 = some m.cls := findClass_of_methodNamed B.named
  have hlocks := B.notSynchronized
  have hK := hE.1
  have hin10 : ∀ w ∈ wsX100, w ∈ wsX10_fits := fun _ h9 => List.mem_cons_of_mem _ (List.mem_append_left _ (List.mem_append_left _ (List.mem_append_left _ (List.mem_append_left _ (List.mem_append_left _ (List.mem_append_right _ h9))))))
  have hin2 : ∀ w ∈ wsX20, w ∈ wsX10_fits := fun _ h9 => List.mem_cons_of_mem _ (List.mem_append_left _ (List.mem_append_left _ (List.mem_append_left _ (List.mem_append_left _ (List.mem_append_right _ h9)))))
  have hin3 : ∀ w ∈ wsX30, w ∈ wsX10_fits := fun _ h9 => List.mem_cons_of_mem _ (List.mem_append_left _ (List.mem_append_left _ (List.mem_append_left _ (List.mem_append_right _ h9))))
  have hin9 : ∀ w ∈ wsX90, w ∈ wsX10_fits := fun _ h9 => List.mem_cons_of_mem _ (List.mem_append_left _ (List.mem_append_left _ (List.mem_append_right _ h9)))
  have hin0 : ∀ w ∈ wsX00, w ∈ wsX10_fits := fun _ h9 => List.mem_cons_of_mem _ (List.mem_append_left _ (List.mem_append_right _ h9))
  subst hsz
  have hD := hD0.self (sz := s.heap.size)
  generalize hAe : va_A [(h0, .inr (10, [.ref xa1, .ref xa3, .ref xa15, .ref xa27, .ref xa28, .ref xa33, .ref xa38, .ref xa41, .ref xa45, .ref xa46, .ref xa47, .ref xa52, .ref xa54, .int 0, .ref xa55, .ref xa60, .ref xa62, .ref xa67, .int (-1)])), (xa3, .inr (2, [.ref xa4, .ref xa5, .ref xa6, .ref xa7, .ref xa8, .ref xa9, .ref xa10, .int 0, .int 0, .int 0, .int 5, .ref xa11, .ref xa12, .ref xa13, .ref xa14]))] s.heap.size = A at hD hT ⊢
  have hA : ∀ q : Nat, s.heap.size ≤ q → A q := fun q h => by rw [← hAe]; exact Or.inr h
  have hS : va_S A s.heap s.heap [] := va_S.rf
  have hP : va_P (dC, dI) vwCl [(h0, .inr (10, [.ref xa1, .ref xa3, .ref xa15, .ref xa27, .ref xa28, .ref xa33, .ref xa38, .ref xa41, .ref xa45, .ref xa46, .ref xa47, .ref xa52, .ref xa54, .int 0, .ref xa55, .ref xa60, .ref xa62, .ref xa67, .int (-1)])), (xa3, .inr (2, [.ref xa4, .ref xa5, .ref xa6, .ref xa7, .ref xa8, .ref xa9, .ref xa10, .int 0, .int 0, .int 0, .int 5, .ref xa11, .ref xa12, .ref xa13, .ref xa14]))] s.heap := hP
  have hl := lv_entry ([.ref h0, .int p0, .int p1]) (n := 5) (Nat.le_of_ble_eq_true rfl)
  have hla : entryFrame m args0 5 = entryFrame m ([.ref h0, .int p0, .int p1] : List Value).toArray 5 := by rw [hargs]
  rw [hla, lg_entry_eq]
  generalize (lg_sl ([.ref h0, .int p0, .int p1]) ++ List.replicate (5 - (lg_sl ([.ref h0, .int p0, .int p1])).length) Slot.unset).toArray = ls at hl ⊢
  have hl : lv_has ls 5 [(0, .ref h0), (1, .int p0), (2, .int p1)] := hl
  refine lv_aload_n hx hb dX10_fits_0 rfl (lv_at hl 0 rfl) ?_
  refine lv_iload_n hx hb dX10_fits_1 rfl (lv_at hl 1 rfl) ?_
  have hPc := hP.sub (ws' := [(h0, .inr (10, [.ref xa1, .ref xa3, .ref xa15, .ref xa27, .ref xa28, .ref xa33, .ref xa38, .ref xa41, .ref xa45, .ref xa46, .ref xa47, .ref xa52, .ref xa54, .int 0, .ref xa55, .ref xa60, .ref xa62, .ref xa67, .int (-1)])), (xa3, .inr (2, [.ref xa4, .ref xa5, .ref xa6, .ref xa7, .ref xa8, .ref xa9, .ref xa10, .int 0, .int 0, .int 0, .int 5, .ref xa11, .ref xa12, .ref xa13, .ref xa14]))]) [0, 1] rfl
  have hDc := hD.sub (ws' := [(h0, .inr (10, [.ref xa1, .ref xa3, .ref xa15, .ref xa27, .ref xa28, .ref xa33, .ref xa38, .ref xa41, .ref xa45, .ref xa46, .ref xa47, .ref xa52, .ref xa54, .int 0, .ref xa55, .ref xa60, .ref xa62, .ref xa67, .int (-1)])), (xa3, .inr (2, [.ref xa4, .ref xa5, .ref xa6, .ref xa7, .ref xa8, .ref xa9, .ref xa10, .int 0, .int 0, .int 0, .int 5, .ref xa11, .ref xa12, .ref xa13, .ref xa14]))]) [0, 1] (by decide) rfl
  have hFc := va_free (wc := [(h0, .inr (10, [.ref xa1, .ref xa3, .ref xa15, .ref xa27, .ref xa28, .ref xa33, .ref xa38, .ref xa41, .ref xa45, .ref xa46, .ref xa47, .ref xa52, .ref xa54, .int 0, .ref xa55, .ref xa60, .ref xa62, .ref xa67, .int (-1)])), (xa3, .inr (2, [.ref xa4, .ref xa5, .ref xa6, .ref xa7, .ref xa8, .ref xa9, .ref xa10, .int 0, .int 0, .int 0, .int 5, .ref xa11, .ref xa12, .ref xa13, .ref xa14]))]) hD hS hA [0, 1] rfl
  refine vx_callv (vx_runV (As := [.int p0]) (rest := []) ⟨hx, hb, hml, hown, hts⟩ (k10_mustBeRouter l hst dC dI kB kI kJ kZ kC kS s.heap.size h0 xa1 xa3 xa15 xa27 xa28 xa33 xa38 xa41 xa45 xa46 xa47 xa52 xa54 xa55 xa60 xa62 xa67 xa4 xa5 xa6 xa7 xa8 xa9 xa10 xa11 xa12 xa13 xa14 p0) (cwV 1 hts gX10_fits_X10_mustBeRouter rfl rfl rfl (by decide +kernel) ⟨Nat.le_of_ble_eq_true rfl, Nat.le_of_ble_eq_true rfl⟩) ⟨fun a U g mk q => by obtain ⟨q0, q1, qP, qE, qD, qX, qT⟩ := q; exact ⟨q0, q1, qP, kE_call qE, qD, kX_call qX, kT_call qT⟩, va_recv hK hP (ci := 10) (q0 := 0) rfl rfl, fun U hU hW => ⟨rfl, by rw [hU], by rw [hU]; exact hPc, kE_warm hW hE, hDc.weaken (fun _ _ _ _ => trivial), kX_warm hW hXs, kT_at hT hS hFc hW hU⟩⟩ rfl rfl hl.1 rfl (lv_room (Nat.le_of_ble_eq_true rfl)) dX10_fits_2 ⟨Nat.le_of_ble_eq_true rfl, Nat.le_of_ble_eq_true rfl⟩) hS (fun q _ h => hFc q h) hFc (fun q _ h => hFc q h) (fun E ce q9 u t H1 locs ht hvm hpx hBX hz1 hk1 hS hc9 hv9 hcl9 => ?_) (fun u t H1 locs ht hvm w2 hB hz1 hk1 hS => ?_)
  · exact vx_out (fun x h9 => (hexT x h9).elim) hlocks hc9 hv9 hcl9 (fun t9 ht9 hvm9 => ⟨(), trivial, hBX, hS.F ht9⟩) hS.2.2 (Nat.le_of_ble_eq_true rfl) (Nat.le_of_ble_eq_true rfl)
  · exact w2.elim
def rm_k10_look : Room := { frames := 7, cells := 1, slots := 6, locals := 103 }
set_option maxHeartbeats 4000000 in
set_option maxRecDepth 100000 in
theorem k10_look (l : Launch) (hst : l.stackTraces = false) (dC : Nat → ClassId) (dI : Nat → Nat → Nat) (kB kI kJ kZ kC kS : ClassId) (sz : Nat) (h0 : Nat) (xa1 : Nat) (xa3 : Nat) (xa15 : Nat) (xa27 : Nat) (xa28 : Nat) (xa33 : Nat) (xa38 : Nat) (xa41 : Nat) (xa45 : Nat) (xa46 : Nat) (xa47 : Nat) (xa52 : Nat) (xa54 : Nat) (xa55 : Nat) (xa60 : Nat) (xa62 : Nat) (xa67 : Nat) (xa4 : Nat) (xa5 : Nat) (xa6 : Nat) (xa7 : Nat) (xa8 : Nat) (xa9 : Nat) (xa10 : Nat) (xa11 : Nat) (xa12 : Nat) (xa13 : Nat) (xa14 : Nat) (p0 : Int32) (p1 : Int32) (p2 : Int32) : vx_Met l yX10_look wsX10_look rm_k10_look (va_Pc [.ref h0, .int p0, .int p1, .int p2] (fun U => U.heap.size = sz ∧ va_P (dC, dI) vwCl [(h0, .inr (10, [.ref xa1, .ref xa3, .ref xa15, .ref xa27, .ref xa28, .ref xa33, .ref xa38, .ref xa41, .ref xa45, .ref xa46, .ref xa47, .ref xa52, .ref xa54, .int 0, .ref xa55, .ref xa60, .ref xa62, .ref xa67, .int (-1)])), (xa3, .inr (2, [.ref xa4, .ref xa5, .ref xa6, .ref xa7, .ref xa8, .ref xa9, .ref xa10, .int 0, .int 0, .int 0, .int 5, .ref xa11, .ref xa12, .ref xa13, .ref xa14]))] U.heap ∧ kE dC dI kB kI kJ kZ kC kS U ∧ va_D (fun _ => True) [(h0, .inr (10, [.ref xa1, .ref xa3, .ref xa15, .ref xa27, .ref xa28, .ref xa33, .ref xa38, .ref xa41, .ref xa45, .ref xa46, .ref xa47, .ref xa52, .ref xa54, .int 0, .ref xa55, .ref xa60, .ref xa62, .ref xa67, .int (-1)])), (xa3, .inr (2, [.ref xa4, .ref xa5, .ref xa6, .ref xa7, .ref xa8, .ref xa9, .ref xa10, .int 0, .int 0, .int 0, .int 5, .ref xa11, .ref xa12, .ref xa13, .ref xa14]))] ∧ kX U ∧ kT (va_A [(h0, .inr (10, [.ref xa1, .ref xa3, .ref xa15, .ref xa27, .ref xa28, .ref xa33, .ref xa38, .ref xa41, .ref xa45, .ref xa46, .ref xa47, .ref xa52, .ref xa54, .int 0, .ref xa55, .ref xa60, .ref xa62, .ref xa67, .int (-1)])), (xa3, .inr (2, [.ref xa4, .ref xa5, .ref xa6, .ref xa7, .ref xa8, .ref xa9, .ref xa10, .int 0, .int 0, .int 0, .int 5, .ref xa11, .ref xa12, .ref xa13, .ref xa14]))] sz) U)) (va_Qi (fun (r : Int32) (_ : Unit) => False) (fun _ t => va_P (dC, dI) vwCl [] t.heap ∧ va_D (va_A [(h0, .inr (10, [.ref xa1, .ref xa3, .ref xa15, .ref xa27, .ref xa28, .ref xa33, .ref xa38, .ref xa41, .ref xa45, .ref xa46, .ref xa47, .ref xa52, .ref xa54, .int 0, .ref xa55, .ref xa60, .ref xa62, .ref xa67, .int (-1)])), (xa3, .inr (2, [.ref xa4, .ref xa5, .ref xa6, .ref xa7, .ref xa8, .ref xa9, .ref xa10, .int 0, .int 0, .int 0, .int 5, .ref xa11, .ref xa12, .ref xa13, .ref xa14]))] sz) []) (va_A [(h0, .inr (10, [.ref xa1, .ref xa3, .ref xa15, .ref xa27, .ref xa28, .ref xa33, .ref xa38, .ref xa41, .ref xa45, .ref xa46, .ref xa47, .ref xa52, .ref xa54, .int 0, .ref xa55, .ref xa60, .ref xa62, .ref xa67, .int (-1)])), (xa3, .inr (2, [.ref xa4, .ref xa5, .ref xa6, .ref xa7, .ref xa8, .ref xa9, .ref xa10, .int 0, .int 0, .int 0, .int 5, .ref xa11, .ref xa12, .ref xa13, .ref xa14]))] sz)) (vx_X (fun (_ : Unit) => True) (fun (E : String) (_ : Unit) (_ : State) => E = "java/util/NoSuchElementException") (va_A [(h0, .inr (10, [.ref xa1, .ref xa3, .ref xa15, .ref xa27, .ref xa28, .ref xa33, .ref xa38, .ref xa41, .ref xa45, .ref xa46, .ref xa47, .ref xa52, .ref xa54, .int 0, .ref xa55, .ref xa60, .ref xa62, .ref xa67, .int (-1)])), (xa3, .inr (2, [.ref xa4, .ref xa5, .ref xa6, .ref xa7, .ref xa8, .ref xa9, .ref xa10, .int 0, .int 0, .int 0, .int 5, .ref xa11, .ref xa12, .ref xa13, .ref xa14]))] sz)) 1 6 (va_A [(h0, .inr (10, [.ref xa1, .ref xa3, .ref xa15, .ref xa27, .ref xa28, .ref xa33, .ref xa38, .ref xa41, .ref xa45, .ref xa46, .ref xa47, .ref xa52, .ref xa54, .int 0, .ref xa55, .ref xa60, .ref xa62, .ref xa67, .int (-1)])), (xa3, .inr (2, [.ref xa4, .ref xa5, .ref xa6, .ref xa7, .ref xa8, .ref xa9, .ref xa10, .int 0, .int 0, .int 0, .int 5, .ref xa11, .ref xa12, .ref xa13, .ref xa14]))] sz) := by
  refine vx_ofW (cc := cX10_look) (maxL := 4) (ret := (some .int)) (by decide) rfl ?_
  intro p e s m args0 below meth c s₁ B hml hexT hv
  obtain ⟨hargs, hsz, hP, hE, hD0, hXs, hT⟩ := hv
  have hx := B.exec
  have hb := B.bytes
  have hr := B.returns
  have hts := atoms_spec (ws := wsX10_look) B.pre
  have hown : s.vm.findClass RX10 = some m.cls := findClass_of_methodNamed B.named
  have hlocks := B.notSynchronized
  have hK := hE.1
  have hin10 : ∀ w ∈ wsX100, w ∈ wsX10_look := fun _ h9 => List.mem_cons_of_mem _ (List.mem_append_left _ (List.mem_append_left _ (List.mem_append_left _ (List.mem_append_left _ (List.mem_append_left _ (List.mem_append_right _ h9))))))
  have hin3 : ∀ w ∈ wsX30, w ∈ wsX10_look := fun _ h9 => List.mem_cons_of_mem _ (List.mem_append_left _ (List.mem_append_left _ (List.mem_append_left _ (List.mem_append_left _ (List.mem_append_right _ h9)))))
  have hin2 : ∀ w ∈ wsX20, w ∈ wsX10_look := fun _ h9 => List.mem_cons_of_mem _ (List.mem_append_left _ (List.mem_append_left _ (List.mem_append_left _ (List.mem_append_right _ h9))))
  have hin9 : ∀ w ∈ wsX90, w ∈ wsX10_look := fun _ h9 => List.mem_cons_of_mem _ (List.mem_append_left _ (List.mem_append_left _ (List.mem_append_right _ h9)))
  have hin0 : ∀ w ∈ wsX00, w ∈ wsX10_look := fun _ h9 => List.mem_cons_of_mem _ (List.mem_append_left _ (List.mem_append_right _ h9))
  subst hsz
  have hD := hD0.self (sz := s.heap.size)
  generalize hAe : va_A [(h0, .inr (10, [.ref xa1, .ref xa3, .ref xa15, .ref xa27, .ref xa28, .ref xa33, .ref xa38, .ref xa41, .ref xa45, .ref xa46, .ref xa47, .ref xa52, .ref xa54, .int 0, .ref xa55, .ref xa60, .ref xa62, .ref xa67, .int (-1)])), (xa3, .inr (2, [.ref xa4, .ref xa5, .ref xa6, .ref xa7, .ref xa8, .ref xa9, .ref xa10, .int 0, .int 0, .int 0, .int 5, .ref xa11, .ref xa12, .ref xa13, .ref xa14]))] s.heap.size = A at hD hT ⊢
  have hA : ∀ q : Nat, s.heap.size ≤ q → A q := fun q h => by rw [← hAe]; exact Or.inr h
  have hS : va_S A s.heap s.heap [] := va_S.rf
  have hP : va_P (dC, dI) vwCl [(h0, .inr (10, [.ref xa1, .ref xa3, .ref xa15, .ref xa27, .ref xa28, .ref xa33, .ref xa38, .ref xa41, .ref xa45, .ref xa46, .ref xa47, .ref xa52, .ref xa54, .int 0, .ref xa55, .ref xa60, .ref xa62, .ref xa67, .int (-1)])), (xa3, .inr (2, [.ref xa4, .ref xa5, .ref xa6, .ref xa7, .ref xa8, .ref xa9, .ref xa10, .int 0, .int 0, .int 0, .int 5, .ref xa11, .ref xa12, .ref xa13, .ref xa14]))] s.heap := hP
  have hl := lv_entry ([.ref h0, .int p0, .int p1, .int p2]) (n := 4) (Nat.le_of_ble_eq_true rfl)
  have hla : entryFrame m args0 4 = entryFrame m ([.ref h0, .int p0, .int p1, .int p2] : List Value).toArray 4 := by rw [hargs]
  rw [hla, lg_entry_eq]
  generalize (lg_sl ([.ref h0, .int p0, .int p1, .int p2]) ++ List.replicate (4 - (lg_sl ([.ref h0, .int p0, .int p1, .int p2])).length) Slot.unset).toArray = ls at hl ⊢
  have hl : lv_has ls 4 [(0, .ref h0), (1, .int p0), (2, .int p1), (3, .int p2)] := hl
  refine lv_aload_n hx hb dX10_look_0 rfl (lv_at hl 0 rfl) ?_
  refine lv_iload_n hx hb dX10_look_1 rfl (lv_at hl 1 rfl) ?_
  have hPc := hP.sub (ws' := [(h0, .inr (10, [.ref xa1, .ref xa3, .ref xa15, .ref xa27, .ref xa28, .ref xa33, .ref xa38, .ref xa41, .ref xa45, .ref xa46, .ref xa47, .ref xa52, .ref xa54, .int 0, .ref xa55, .ref xa60, .ref xa62, .ref xa67, .int (-1)])), (xa3, .inr (2, [.ref xa4, .ref xa5, .ref xa6, .ref xa7, .ref xa8, .ref xa9, .ref xa10, .int 0, .int 0, .int 0, .int 5, .ref xa11, .ref xa12, .ref xa13, .ref xa14]))]) [0, 1] rfl
  have hDc := hD.sub (ws' := [(h0, .inr (10, [.ref xa1, .ref xa3, .ref xa15, .ref xa27, .ref xa28, .ref xa33, .ref xa38, .ref xa41, .ref xa45, .ref xa46, .ref xa47, .ref xa52, .ref xa54, .int 0, .ref xa55, .ref xa60, .ref xa62, .ref xa67, .int (-1)])), (xa3, .inr (2, [.ref xa4, .ref xa5, .ref xa6, .ref xa7, .ref xa8, .ref xa9, .ref xa10, .int 0, .int 0, .int 0, .int 5, .ref xa11, .ref xa12, .ref xa13, .ref xa14]))]) [0, 1] (by decide) rfl
  have hFc := va_free (wc := [(h0, .inr (10, [.ref xa1, .ref xa3, .ref xa15, .ref xa27, .ref xa28, .ref xa33, .ref xa38, .ref xa41, .ref xa45, .ref xa46, .ref xa47, .ref xa52, .ref xa54, .int 0, .ref xa55, .ref xa60, .ref xa62, .ref xa67, .int (-1)])), (xa3, .inr (2, [.ref xa4, .ref xa5, .ref xa6, .ref xa7, .ref xa8, .ref xa9, .ref xa10, .int 0, .int 0, .int 0, .int 5, .ref xa11, .ref xa12, .ref xa13, .ref xa14]))]) hD hS hA [0, 1] rfl
  refine vx_callv (vx_runV (As := [.int p0]) (rest := []) ⟨hx, hb, hml, hown, hts⟩ (k10_mustBeRouter l hst dC dI kB kI kJ kZ kC kS s.heap.size h0 xa1 xa3 xa15 xa27 xa28 xa33 xa38 xa41 xa45 xa46 xa47 xa52 xa54 xa55 xa60 xa62 xa67 xa4 xa5 xa6 xa7 xa8 xa9 xa10 xa11 xa12 xa13 xa14 p0) (cwV 1 hts gX10_look_X10_mustBeRouter rfl rfl rfl (by decide +kernel) ⟨Nat.le_of_ble_eq_true rfl, Nat.le_of_ble_eq_true rfl⟩) ⟨fun a U g mk q => by obtain ⟨q0, q1, qP, qE, qD, qX, qT⟩ := q; exact ⟨q0, q1, qP, kE_call qE, qD, kX_call qX, kT_call qT⟩, va_recv hK hP (ci := 10) (q0 := 0) rfl rfl, fun U hU hW => ⟨rfl, by rw [hU], by rw [hU]; exact hPc, kE_warm hW hE, hDc.weaken (fun _ _ _ _ => trivial), kX_warm hW hXs, kT_at hT hS hFc hW hU⟩⟩ rfl rfl hl.1 rfl (lv_room (Nat.le_of_ble_eq_true rfl)) dX10_look_2 ⟨Nat.le_of_ble_eq_true rfl, Nat.le_of_ble_eq_true rfl⟩) hS (fun q _ h => hFc q h) hFc (fun q _ h => hFc q h) (fun E ce q9 u t H1 locs ht hvm hpx hBX hz1 hk1 hS hc9 hv9 hcl9 => ?_) (fun u t H1 locs ht hvm w2 hB hz1 hk1 hS => ?_)
  · exact vx_out (fun x h9 => (hexT x h9).elim) hlocks hc9 hv9 hcl9 (fun t9 ht9 hvm9 => ⟨(), trivial, hBX, hS.F ht9⟩) hS.2.2 (Nat.le_of_ble_eq_true rfl) (Nat.le_of_ble_eq_true rfl)
  · exact w2.elim
def rm_k10_seen : Room := { frames := 7, cells := 2, slots := 12, locals := 103 }
set_option maxHeartbeats 4000000 in
set_option maxRecDepth 100000 in
theorem k10_seen (l : Launch) (hst : l.stackTraces = false) (dC : Nat → ClassId) (dI : Nat → Nat → Nat) (kB kI kJ kZ kC kS : ClassId) (sz : Nat) (h0 : Nat) (xa1 : Nat) (xa3 : Nat) (xa15 : Nat) (xa27 : Nat) (xa28 : Nat) (xa33 : Nat) (xa38 : Nat) (xa41 : Nat) (xa45 : Nat) (xa46 : Nat) (xa47 : Nat) (xa52 : Nat) (xa54 : Nat) (xa55 : Nat) (xa60 : Nat) (xa62 : Nat) (xa67 : Nat) (xa4 : Nat) (xa5 : Nat) (xa6 : Nat) (xa7 : Nat) (xa8 : Nat) (xa9 : Nat) (xa10 : Nat) (xa11 : Nat) (xa12 : Nat) (xa13 : Nat) (xa14 : Nat) (p0 : Int32) (p1 : Int32) (p2 : Int32) : vx_Met l yX10_seen wsX10_seen rm_k10_seen (va_Pc [.ref h0, .int p0, .int p1, .int p2] (fun U => U.heap.size = sz ∧ va_P (dC, dI) vwCl [(h0, .inr (10, [.ref xa1, .ref xa3, .ref xa15, .ref xa27, .ref xa28, .ref xa33, .ref xa38, .ref xa41, .ref xa45, .ref xa46, .ref xa47, .ref xa52, .ref xa54, .int 0, .ref xa55, .ref xa60, .ref xa62, .ref xa67, .int (-1)])), (xa3, .inr (2, [.ref xa4, .ref xa5, .ref xa6, .ref xa7, .ref xa8, .ref xa9, .ref xa10, .int 0, .int 0, .int 0, .int 5, .ref xa11, .ref xa12, .ref xa13, .ref xa14]))] U.heap ∧ kE dC dI kB kI kJ kZ kC kS U ∧ va_D (fun _ => True) [(h0, .inr (10, [.ref xa1, .ref xa3, .ref xa15, .ref xa27, .ref xa28, .ref xa33, .ref xa38, .ref xa41, .ref xa45, .ref xa46, .ref xa47, .ref xa52, .ref xa54, .int 0, .ref xa55, .ref xa60, .ref xa62, .ref xa67, .int (-1)])), (xa3, .inr (2, [.ref xa4, .ref xa5, .ref xa6, .ref xa7, .ref xa8, .ref xa9, .ref xa10, .int 0, .int 0, .int 0, .int 5, .ref xa11, .ref xa12, .ref xa13, .ref xa14]))] ∧ kX U ∧ kT (va_A [(h0, .inr (10, [.ref xa1, .ref xa3, .ref xa15, .ref xa27, .ref xa28, .ref xa33, .ref xa38, .ref xa41, .ref xa45, .ref xa46, .ref xa47, .ref xa52, .ref xa54, .int 0, .ref xa55, .ref xa60, .ref xa62, .ref xa67, .int (-1)])), (xa3, .inr (2, [.ref xa4, .ref xa5, .ref xa6, .ref xa7, .ref xa8, .ref xa9, .ref xa10, .int 0, .int 0, .int 0, .int 5, .ref xa11, .ref xa12, .ref xa13, .ref xa14]))] sz) U)) (va_Qi (fun (r : Int32) (_ : Unit) => False) (fun _ t => va_P (dC, dI) vwCl [] t.heap ∧ va_D (va_A [(h0, .inr (10, [.ref xa1, .ref xa3, .ref xa15, .ref xa27, .ref xa28, .ref xa33, .ref xa38, .ref xa41, .ref xa45, .ref xa46, .ref xa47, .ref xa52, .ref xa54, .int 0, .ref xa55, .ref xa60, .ref xa62, .ref xa67, .int (-1)])), (xa3, .inr (2, [.ref xa4, .ref xa5, .ref xa6, .ref xa7, .ref xa8, .ref xa9, .ref xa10, .int 0, .int 0, .int 0, .int 5, .ref xa11, .ref xa12, .ref xa13, .ref xa14]))] sz) []) (va_A [(h0, .inr (10, [.ref xa1, .ref xa3, .ref xa15, .ref xa27, .ref xa28, .ref xa33, .ref xa38, .ref xa41, .ref xa45, .ref xa46, .ref xa47, .ref xa52, .ref xa54, .int 0, .ref xa55, .ref xa60, .ref xa62, .ref xa67, .int (-1)])), (xa3, .inr (2, [.ref xa4, .ref xa5, .ref xa6, .ref xa7, .ref xa8, .ref xa9, .ref xa10, .int 0, .int 0, .int 0, .int 5, .ref xa11, .ref xa12, .ref xa13, .ref xa14]))] sz)) (vx_X (fun (_ : Unit) => True) (fun (E : String) (_ : Unit) (_ : State) => E = "java/util/NoSuchElementException") (va_A [(h0, .inr (10, [.ref xa1, .ref xa3, .ref xa15, .ref xa27, .ref xa28, .ref xa33, .ref xa38, .ref xa41, .ref xa45, .ref xa46, .ref xa47, .ref xa52, .ref xa54, .int 0, .ref xa55, .ref xa60, .ref xa62, .ref xa67, .int (-1)])), (xa3, .inr (2, [.ref xa4, .ref xa5, .ref xa6, .ref xa7, .ref xa8, .ref xa9, .ref xa10, .int 0, .int 0, .int 0, .int 5, .ref xa11, .ref xa12, .ref xa13, .ref xa14]))] sz)) 2 12 (va_A [(h0, .inr (10, [.ref xa1, .ref xa3, .ref xa15, .ref xa27, .ref xa28, .ref xa33, .ref xa38, .ref xa41, .ref xa45, .ref xa46, .ref xa47, .ref xa52, .ref xa54, .int 0, .ref xa55, .ref xa60, .ref xa62, .ref xa67, .int (-1)])), (xa3, .inr (2, [.ref xa4, .ref xa5, .ref xa6, .ref xa7, .ref xa8, .ref xa9, .ref xa10, .int 0, .int 0, .int 0, .int 5, .ref xa11, .ref xa12, .ref xa13, .ref xa14]))] sz) := by
  refine vx_ofW (cc := cX10_seen) (maxL := 4) (ret := (some .int)) (by decide) rfl ?_
  intro p e s m args0 below meth c s₁ B hml hexT hv
  obtain ⟨hargs, hsz, hP, hE, hD0, hXs, hT⟩ := hv
  have hx := B.exec
  have hb := B.bytes
  have hr := B.returns
  have hts := atoms_spec (ws := wsX10_seen) B.pre
  have hown : s.vm.findClass RX10 = some m.cls := findClass_of_methodNamed B.named
  have hlocks := B.notSynchronized
  have hK := hE.1
  have hin10 : ∀ w ∈ wsX100, w ∈ wsX10_seen := fun _ h9 => List.mem_cons_of_mem _ (List.mem_append_left _ (List.mem_append_left _ (List.mem_append_left _ (List.mem_append_right _ h9))))
  have hin2 : ∀ w ∈ wsX20, w ∈ wsX10_seen := fun _ h9 => List.mem_cons_of_mem _ (List.mem_append_left _ (List.mem_append_left _ (List.mem_append_right _ h9)))
  have hin0 : ∀ w ∈ wsX00, w ∈ wsX10_seen := fun _ h9 => List.mem_cons_of_mem _ (List.mem_append_left _ (List.mem_append_right _ h9))
  subst hsz
  have hD := hD0.self (sz := s.heap.size)
  generalize hAe : va_A [(h0, .inr (10, [.ref xa1, .ref xa3, .ref xa15, .ref xa27, .ref xa28, .ref xa33, .ref xa38, .ref xa41, .ref xa45, .ref xa46, .ref xa47, .ref xa52, .ref xa54, .int 0, .ref xa55, .ref xa60, .ref xa62, .ref xa67, .int (-1)])), (xa3, .inr (2, [.ref xa4, .ref xa5, .ref xa6, .ref xa7, .ref xa8, .ref xa9, .ref xa10, .int 0, .int 0, .int 0, .int 5, .ref xa11, .ref xa12, .ref xa13, .ref xa14]))] s.heap.size = A at hD hT ⊢
  have hA : ∀ q : Nat, s.heap.size ≤ q → A q := fun q h => by rw [← hAe]; exact Or.inr h
  have hS : va_S A s.heap s.heap [] := va_S.rf
  have hP : va_P (dC, dI) vwCl [(h0, .inr (10, [.ref xa1, .ref xa3, .ref xa15, .ref xa27, .ref xa28, .ref xa33, .ref xa38, .ref xa41, .ref xa45, .ref xa46, .ref xa47, .ref xa52, .ref xa54, .int 0, .ref xa55, .ref xa60, .ref xa62, .ref xa67, .int (-1)])), (xa3, .inr (2, [.ref xa4, .ref xa5, .ref xa6, .ref xa7, .ref xa8, .ref xa9, .ref xa10, .int 0, .int 0, .int 0, .int 5, .ref xa11, .ref xa12, .ref xa13, .ref xa14]))] s.heap := hP
  have hl := lv_entry ([.ref h0, .int p0, .int p1, .int p2]) (n := 4) (Nat.le_of_ble_eq_true rfl)
  have hla : entryFrame m args0 4 = entryFrame m ([.ref h0, .int p0, .int p1, .int p2] : List Value).toArray 4 := by rw [hargs]
  rw [hla, lg_entry_eq]
  generalize (lg_sl ([.ref h0, .int p0, .int p1, .int p2]) ++ List.replicate (4 - (lg_sl ([.ref h0, .int p0, .int p1, .int p2])).length) Slot.unset).toArray = ls at hl ⊢
  have hl : lv_has ls 4 [(0, .ref h0), (1, .int p0), (2, .int p1), (3, .int p2)] := hl
  refine lv_iload_n hx hb dX10_seen_0 rfl (lv_at hl 1 rfl) ?_
  have hPc := hP.sub (ws' := []) [] rfl
  have hDc := hD.sub (ws' := []) [] (by decide) rfl
  have hFc := va_free (wc := []) hD hS hA [] rfl
  refine vx_callv (vx_runS (As := [.int p0]) (rest := []) ⟨hx, hb, hml, hown, hts⟩ (k10_mustBePort l hst dC dI kB kI kJ kZ kC kS s.heap.size p0) (va_cwS 1 hts gX10_seen_X10_mustBePort rfl rfl rfl (by decide +kernel) ⟨Nat.le_of_ble_eq_true rfl, Nat.le_of_ble_eq_true rfl⟩) ⟨fun a U g mk q => by obtain ⟨q0, q1, qP, qE, qD, qX, qT⟩ := q; exact ⟨q0, q1, qP, kE_call qE, qD, kX_call qX, kT_call qT⟩, fun U hU hW => ⟨rfl, by rw [hU], by rw [hU]; exact hPc, kE_warm hW hE, hDc.weaken (fun _ _ _ _ => trivial), kX_warm hW hXs, kT_at hT hS hFc hW hU⟩⟩ rfl rfl hl.1 rfl (lv_room (Nat.le_of_ble_eq_true rfl)) dX10_seen_1 ⟨Nat.le_of_ble_eq_true rfl, Nat.le_of_ble_eq_true rfl⟩) hS (fun q _ h => hFc q h) hFc (fun q _ h => hFc q h) (fun E ce q9 u t H1 locs ht hvm hpx hBX hz1 hk1 hS hc9 hv9 hcl9 => ?_) (fun u t H1 locs ht hvm w2 hB hz1 hk1 hS => ?_)
  · exact vx_out (fun x h9 => (hexT x h9).elim) hlocks hc9 hv9 hcl9 (fun t9 ht9 hvm9 => ⟨(), trivial, hBX, hS.F ht9⟩) hS.2.2 (Nat.le_of_ble_eq_true rfl) (Nat.le_of_ble_eq_true rfl)
  · obtain ⟨hP1, hD1⟩ := hB
    rw [ht] at hP1
    try dsimp only at w2
    obtain ⟨hP, hD⟩ := va_join (wr := [(h0, .inr (10, [.ref xa1, .ref xa3, .ref xa15, .ref xa27, .ref xa28, .ref xa33, .ref xa38, .ref xa41, .ref xa45, .ref xa46, .ref xa47, .ref xa52, .ref xa54, .int 0, .ref xa55, .ref xa60, .ref xa62, .ref xa67, .int (-1)])), (xa3, .inr (2, [.ref xa4, .ref xa5, .ref xa6, .ref xa7, .ref xa8, .ref xa9, .ref xa10, .int 0, .int 0, .int 0, .int 5, .ref xa11, .ref xa12, .ref xa13, .ref xa14]))]) (w1 := []) hP hD [] [0, 1] rfl rfl (by decide) (by decide) hk1 hFc hP1 hD1
    generalize H1 = H at hP hS ⊢
    have hP : va_P (dC, dI) vwCl [(h0, .inr (10, [.ref xa1, .ref xa3, .ref xa15, .ref xa27, .ref xa28, .ref xa33, .ref xa38, .ref xa41, .ref xa45, .ref xa46, .ref xa47, .ref xa52, .ref xa54, .int 0, .ref xa55, .ref xa60, .ref xa62, .ref xa67, .int (-1)])), (xa3, .inr (2, [.ref xa4, .ref xa5, .ref xa6, .ref xa7, .ref xa8, .ref xa9, .ref xa10, .int 0, .int 0, .int 0, .int 5, .ref xa11, .ref xa12, .ref xa13, .ref xa14]))] H := hP
    have hD : va_D A [(h0, .inr (10, [.ref xa1, .ref xa3, .ref xa15, .ref xa27, .ref xa28, .ref xa33, .ref xa38, .ref xa41, .ref xa45, .ref xa46, .ref xa47, .ref xa52, .ref xa54, .int 0, .ref xa55, .ref xa60, .ref xa62, .ref xa67, .int (-1)])), (xa3, .inr (2, [.ref xa4, .ref xa5, .ref xa6, .ref xa7, .ref xa8, .ref xa9, .ref xa10, .int 0, .int 0, .int 0, .int 5, .ref xa11, .ref xa12, .ref xa13, .ref xa14]))] := hD
    refine W.widen (k := 1) (n := 6) (Nat.le_of_ble_eq_true rfl) (Nat.le_of_ble_eq_true rfl) ?_
    refine lv_aload_n hx hb dX10_seen_4 rfl (lv_at hl 0 rfl) ?_
    refine lv_iload_n hx hb dX10_seen_5 rfl (lv_at hl 2 rfl) ?_
    have hPc := hP.sub (ws' := [(h0, .inr (10, [.ref xa1, .ref xa3, .ref xa15, .ref xa27, .ref xa28, .ref xa33, .ref xa38, .ref xa41, .ref xa45, .ref xa46, .ref xa47, .ref xa52, .ref xa54, .int 0, .ref xa55, .ref xa60, .ref xa62, .ref xa67, .int (-1)])), (xa3, .inr (2, [.ref xa4, .ref xa5, .ref xa6, .ref xa7, .ref xa8, .ref xa9, .ref xa10, .int 0, .int 0, .int 0, .int 5, .ref xa11, .ref xa12, .ref xa13, .ref xa14]))]) [0, 1] rfl
    have hDc := hD.sub (ws' := [(h0, .inr (10, [.ref xa1, .ref xa3, .ref xa15, .ref xa27, .ref xa28, .ref xa33, .ref xa38, .ref xa41, .ref xa45, .ref xa46, .ref xa47, .ref xa52, .ref xa54, .int 0, .ref xa55, .ref xa60, .ref xa62, .ref xa67, .int (-1)])), (xa3, .inr (2, [.ref xa4, .ref xa5, .ref xa6, .ref xa7, .ref xa8, .ref xa9, .ref xa10, .int 0, .int 0, .int 0, .int 5, .ref xa11, .ref xa12, .ref xa13, .ref xa14]))]) [0, 1] (by decide) rfl
    have hFc := va_free (wc := [(h0, .inr (10, [.ref xa1, .ref xa3, .ref xa15, .ref xa27, .ref xa28, .ref xa33, .ref xa38, .ref xa41, .ref xa45, .ref xa46, .ref xa47, .ref xa52, .ref xa54, .int 0, .ref xa55, .ref xa60, .ref xa62, .ref xa67, .int (-1)])), (xa3, .inr (2, [.ref xa4, .ref xa5, .ref xa6, .ref xa7, .ref xa8, .ref xa9, .ref xa10, .int 0, .int 0, .int 0, .int 5, .ref xa11, .ref xa12, .ref xa13, .ref xa14]))]) hD hS hA [0, 1] rfl
    refine vx_callv (vx_runV (As := [.int p1]) (rest := []) ⟨hx, hb, hml, hown, hts⟩ (k10_mustBeGoal l hst dC dI kB kI kJ kZ kC kS H.size h0 xa1 xa3 xa15 xa27 xa28 xa33 xa38 xa41 xa45 xa46 xa47 xa52 xa54 xa55 xa60 xa62 xa67 xa4 xa5 xa6 xa7 xa8 xa9 xa10 xa11 xa12 xa13 xa14 p1) (cwV 1 hts gX10_seen_X10_mustBeGoal rfl rfl rfl (by decide +kernel) ⟨Nat.le_of_ble_eq_true rfl, Nat.le_of_ble_eq_true rfl⟩) ⟨fun a U g mk q => by obtain ⟨q0, q1, qP, qE, qD, qX, qT⟩ := q; exact ⟨q0, q1, qP, kE_call qE, qD, kX_call qX, kT_call qT⟩, va_recv hK hP (ci := 10) (q0 := 0) rfl rfl, fun U hU hW => ⟨rfl, by rw [hU], by rw [hU]; exact hPc, kE_warm hW hE, hDc.weaken (fun _ _ _ _ => trivial), kX_warm hW hXs, kT_at hT hS hFc hW hU⟩⟩ rfl rfl hl.1 rfl (lv_room (Nat.le_of_ble_eq_true rfl)) dX10_seen_6 ⟨Nat.le_of_ble_eq_true rfl, Nat.le_of_ble_eq_true rfl⟩) hS (fun q _ h => hFc q h) hFc (fun q _ h => hFc q h) (fun E ce q9 u t H1 locs ht hvm hpx hBX hz1 hk1 hS hc9 hv9 hcl9 => ?_) (fun u t H1 locs ht hvm w4 hB hz1 hk1 hS => ?_)
    · exact vx_out (fun x h9 => (hexT x h9).elim) hlocks hc9 hv9 hcl9 (fun t9 ht9 hvm9 => ⟨(), trivial, hBX, hS.F ht9⟩) hS.2.2 (Nat.le_of_ble_eq_true rfl) (Nat.le_of_ble_eq_true rfl)
    · exact w4.elim
def rm_k10_loop : Room := { frames := 7, cells := 2, slots := 12, locals := 103 }
set_option maxHeartbeats 4000000 in
set_option maxRecDepth 100000 in
theorem k10_loop (l : Launch) (hst : l.stackTraces = false) (dC : Nat → ClassId) (dI : Nat → Nat → Nat) (kB kI kJ kZ kC kS : ClassId) (sz : Nat) (h0 : Nat) (xa1 : Nat) (xa3 : Nat) (xa15 : Nat) (xa27 : Nat) (xa28 : Nat) (xa33 : Nat) (xa38 : Nat) (xa41 : Nat) (xa45 : Nat) (xa46 : Nat) (xa47 : Nat) (xa52 : Nat) (xa54 : Nat) (xa55 : Nat) (xa60 : Nat) (xa62 : Nat) (xa67 : Nat) (xa4 : Nat) (xa5 : Nat) (xa6 : Nat) (xa7 : Nat) (xa8 : Nat) (xa9 : Nat) (xa10 : Nat) (xa11 : Nat) (xa12 : Nat) (xa13 : Nat) (xa14 : Nat) (p0 : Int32) (p1 : Int32) (p2 : Int32) : vx_Met l yX10_loop wsX10_loop rm_k10_loop (va_Pc [.ref h0, .int p0, .int p1, .int p2] (fun U => U.heap.size = sz ∧ va_P (dC, dI) vwCl [(h0, .inr (10, [.ref xa1, .ref xa3, .ref xa15, .ref xa27, .ref xa28, .ref xa33, .ref xa38, .ref xa41, .ref xa45, .ref xa46, .ref xa47, .ref xa52, .ref xa54, .int 0, .ref xa55, .ref xa60, .ref xa62, .ref xa67, .int (-1)])), (xa3, .inr (2, [.ref xa4, .ref xa5, .ref xa6, .ref xa7, .ref xa8, .ref xa9, .ref xa10, .int 0, .int 0, .int 0, .int 5, .ref xa11, .ref xa12, .ref xa13, .ref xa14]))] U.heap ∧ kE dC dI kB kI kJ kZ kC kS U ∧ va_D (fun _ => True) [(h0, .inr (10, [.ref xa1, .ref xa3, .ref xa15, .ref xa27, .ref xa28, .ref xa33, .ref xa38, .ref xa41, .ref xa45, .ref xa46, .ref xa47, .ref xa52, .ref xa54, .int 0, .ref xa55, .ref xa60, .ref xa62, .ref xa67, .int (-1)])), (xa3, .inr (2, [.ref xa4, .ref xa5, .ref xa6, .ref xa7, .ref xa8, .ref xa9, .ref xa10, .int 0, .int 0, .int 0, .int 5, .ref xa11, .ref xa12, .ref xa13, .ref xa14]))] ∧ kX U ∧ kT (va_A [(h0, .inr (10, [.ref xa1, .ref xa3, .ref xa15, .ref xa27, .ref xa28, .ref xa33, .ref xa38, .ref xa41, .ref xa45, .ref xa46, .ref xa47, .ref xa52, .ref xa54, .int 0, .ref xa55, .ref xa60, .ref xa62, .ref xa67, .int (-1)])), (xa3, .inr (2, [.ref xa4, .ref xa5, .ref xa6, .ref xa7, .ref xa8, .ref xa9, .ref xa10, .int 0, .int 0, .int 0, .int 5, .ref xa11, .ref xa12, .ref xa13, .ref xa14]))] sz) U)) (va_Qi (fun (r : Int32) (_ : Unit) => False) (fun _ t => va_P (dC, dI) vwCl [] t.heap ∧ va_D (va_A [(h0, .inr (10, [.ref xa1, .ref xa3, .ref xa15, .ref xa27, .ref xa28, .ref xa33, .ref xa38, .ref xa41, .ref xa45, .ref xa46, .ref xa47, .ref xa52, .ref xa54, .int 0, .ref xa55, .ref xa60, .ref xa62, .ref xa67, .int (-1)])), (xa3, .inr (2, [.ref xa4, .ref xa5, .ref xa6, .ref xa7, .ref xa8, .ref xa9, .ref xa10, .int 0, .int 0, .int 0, .int 5, .ref xa11, .ref xa12, .ref xa13, .ref xa14]))] sz) []) (va_A [(h0, .inr (10, [.ref xa1, .ref xa3, .ref xa15, .ref xa27, .ref xa28, .ref xa33, .ref xa38, .ref xa41, .ref xa45, .ref xa46, .ref xa47, .ref xa52, .ref xa54, .int 0, .ref xa55, .ref xa60, .ref xa62, .ref xa67, .int (-1)])), (xa3, .inr (2, [.ref xa4, .ref xa5, .ref xa6, .ref xa7, .ref xa8, .ref xa9, .ref xa10, .int 0, .int 0, .int 0, .int 5, .ref xa11, .ref xa12, .ref xa13, .ref xa14]))] sz)) (vx_X (fun (_ : Unit) => True) (fun (E : String) (_ : Unit) (_ : State) => E = "java/util/NoSuchElementException") (va_A [(h0, .inr (10, [.ref xa1, .ref xa3, .ref xa15, .ref xa27, .ref xa28, .ref xa33, .ref xa38, .ref xa41, .ref xa45, .ref xa46, .ref xa47, .ref xa52, .ref xa54, .int 0, .ref xa55, .ref xa60, .ref xa62, .ref xa67, .int (-1)])), (xa3, .inr (2, [.ref xa4, .ref xa5, .ref xa6, .ref xa7, .ref xa8, .ref xa9, .ref xa10, .int 0, .int 0, .int 0, .int 5, .ref xa11, .ref xa12, .ref xa13, .ref xa14]))] sz)) 2 12 (va_A [(h0, .inr (10, [.ref xa1, .ref xa3, .ref xa15, .ref xa27, .ref xa28, .ref xa33, .ref xa38, .ref xa41, .ref xa45, .ref xa46, .ref xa47, .ref xa52, .ref xa54, .int 0, .ref xa55, .ref xa60, .ref xa62, .ref xa67, .int (-1)])), (xa3, .inr (2, [.ref xa4, .ref xa5, .ref xa6, .ref xa7, .ref xa8, .ref xa9, .ref xa10, .int 0, .int 0, .int 0, .int 5, .ref xa11, .ref xa12, .ref xa13, .ref xa14]))] sz) := by
  refine vx_ofW (cc := cX10_loop) (maxL := 5) (ret := (some .int)) (by decide) rfl ?_
  intro p e s m args0 below meth c s₁ B hml hexT hv
  obtain ⟨hargs, hsz, hP, hE, hD0, hXs, hT⟩ := hv
  have hx := B.exec
  have hb := B.bytes
  have hr := B.returns
  have hts := atoms_spec (ws := wsX10_loop) B.pre
  have hown : s.vm.findClass RX10 = some m.cls := findClass_of_methodNamed B.named
  have hlocks := B.notSynchronized
  have hK := hE.1
  have hin10 : ∀ w ∈ wsX100, w ∈ wsX10_loop := fun _ h9 => List.mem_cons_of_mem _ (List.mem_append_left _ (List.mem_append_left _ (List.mem_append_left _ (List.mem_append_left _ (List.mem_append_right _ h9)))))
  have hin2 : ∀ w ∈ wsX20, w ∈ wsX10_loop := fun _ h9 => List.mem_cons_of_mem _ (List.mem_append_left _ (List.mem_append_left _ (List.mem_append_left _ (List.mem_append_right _ h9))))
  have hin7 : ∀ w ∈ wsX70, w ∈ wsX10_loop := fun _ h9 => List.mem_cons_of_mem _ (List.mem_append_left _ (List.mem_append_left _ (List.mem_append_right _ h9)))
  have hin0 : ∀ w ∈ wsX00, w ∈ wsX10_loop := fun _ h9 => List.mem_cons_of_mem _ (List.mem_append_left _ (List.mem_append_right _ h9))
  subst hsz
  have hD := hD0.self (sz := s.heap.size)
  generalize hAe : va_A [(h0, .inr (10, [.ref xa1, .ref xa3, .ref xa15, .ref xa27, .ref xa28, .ref xa33, .ref xa38, .ref xa41, .ref xa45, .ref xa46, .ref xa47, .ref xa52, .ref xa54, .int 0, .ref xa55, .ref xa60, .ref xa62, .ref xa67, .int (-1)])), (xa3, .inr (2, [.ref xa4, .ref xa5, .ref xa6, .ref xa7, .ref xa8, .ref xa9, .ref xa10, .int 0, .int 0, .int 0, .int 5, .ref xa11, .ref xa12, .ref xa13, .ref xa14]))] s.heap.size = A at hD hT ⊢
  have hA : ∀ q : Nat, s.heap.size ≤ q → A q := fun q h => by rw [← hAe]; exact Or.inr h
  have hS : va_S A s.heap s.heap [] := va_S.rf
  have hP : va_P (dC, dI) vwCl [(h0, .inr (10, [.ref xa1, .ref xa3, .ref xa15, .ref xa27, .ref xa28, .ref xa33, .ref xa38, .ref xa41, .ref xa45, .ref xa46, .ref xa47, .ref xa52, .ref xa54, .int 0, .ref xa55, .ref xa60, .ref xa62, .ref xa67, .int (-1)])), (xa3, .inr (2, [.ref xa4, .ref xa5, .ref xa6, .ref xa7, .ref xa8, .ref xa9, .ref xa10, .int 0, .int 0, .int 0, .int 5, .ref xa11, .ref xa12, .ref xa13, .ref xa14]))] s.heap := hP
  have hl := lv_entry ([.ref h0, .int p0, .int p1, .int p2]) (n := 5) (Nat.le_of_ble_eq_true rfl)
  have hla : entryFrame m args0 5 = entryFrame m ([.ref h0, .int p0, .int p1, .int p2] : List Value).toArray 5 := by rw [hargs]
  rw [hla, lg_entry_eq]
  generalize (lg_sl ([.ref h0, .int p0, .int p1, .int p2]) ++ List.replicate (5 - (lg_sl ([.ref h0, .int p0, .int p1, .int p2])).length) Slot.unset).toArray = ls at hl ⊢
  have hl : lv_has ls 5 [(0, .ref h0), (1, .int p0), (2, .int p1), (3, .int p2)] := hl
  refine lv_iload_n hx hb dX10_loop_0 rfl (lv_at hl 1 rfl) ?_
  have hPc := hP.sub (ws' := []) [] rfl
  have hDc := hD.sub (ws' := []) [] (by decide) rfl
  have hFc := va_free (wc := []) hD hS hA [] rfl
  refine vx_callv (vx_runS (As := [.int p0]) (rest := []) ⟨hx, hb, hml, hown, hts⟩ (k10_mustBePort l hst dC dI kB kI kJ kZ kC kS s.heap.size p0) (va_cwS 1 hts gX10_loop_X10_mustBePort rfl rfl rfl (by decide +kernel) ⟨Nat.le_of_ble_eq_true rfl, Nat.le_of_ble_eq_true rfl⟩) ⟨fun a U g mk q => by obtain ⟨q0, q1, qP, qE, qD, qX, qT⟩ := q; exact ⟨q0, q1, qP, kE_call qE, qD, kX_call qX, kT_call qT⟩, fun U hU hW => ⟨rfl, by rw [hU], by rw [hU]; exact hPc, kE_warm hW hE, hDc.weaken (fun _ _ _ _ => trivial), kX_warm hW hXs, kT_at hT hS hFc hW hU⟩⟩ rfl rfl hl.1 rfl (lv_room (Nat.le_of_ble_eq_true rfl)) dX10_loop_1 ⟨Nat.le_of_ble_eq_true rfl, Nat.le_of_ble_eq_true rfl⟩) hS (fun q _ h => hFc q h) hFc (fun q _ h => hFc q h) (fun E ce q9 u t H1 locs ht hvm hpx hBX hz1 hk1 hS hc9 hv9 hcl9 => ?_) (fun u t H1 locs ht hvm w2 hB hz1 hk1 hS => ?_)
  · exact vx_out (fun x h9 => (hexT x h9).elim) hlocks hc9 hv9 hcl9 (fun t9 ht9 hvm9 => ⟨(), trivial, hBX, hS.F ht9⟩) hS.2.2 (Nat.le_of_ble_eq_true rfl) (Nat.le_of_ble_eq_true rfl)
  · obtain ⟨hP1, hD1⟩ := hB
    rw [ht] at hP1
    try dsimp only at w2
    obtain ⟨hP, hD⟩ := va_join (wr := [(h0, .inr (10, [.ref xa1, .ref xa3, .ref xa15, .ref xa27, .ref xa28, .ref xa33, .ref xa38, .ref xa41, .ref xa45, .ref xa46, .ref xa47, .ref xa52, .ref xa54, .int 0, .ref xa55, .ref xa60, .ref xa62, .ref xa67, .int (-1)])), (xa3, .inr (2, [.ref xa4, .ref xa5, .ref xa6, .ref xa7, .ref xa8, .ref xa9, .ref xa10, .int 0, .int 0, .int 0, .int 5, .ref xa11, .ref xa12, .ref xa13, .ref xa14]))]) (w1 := []) hP hD [] [0, 1] rfl rfl (by decide) (by decide) hk1 hFc hP1 hD1
    generalize H1 = H at hP hS ⊢
    have hP : va_P (dC, dI) vwCl [(h0, .inr (10, [.ref xa1, .ref xa3, .ref xa15, .ref xa27, .ref xa28, .ref xa33, .ref xa38, .ref xa41, .ref xa45, .ref xa46, .ref xa47, .ref xa52, .ref xa54, .int 0, .ref xa55, .ref xa60, .ref xa62, .ref xa67, .int (-1)])), (xa3, .inr (2, [.ref xa4, .ref xa5, .ref xa6, .ref xa7, .ref xa8, .ref xa9, .ref xa10, .int 0, .int 0, .int 0, .int 5, .ref xa11, .ref xa12, .ref xa13, .ref xa14]))] H := hP
    have hD : va_D A [(h0, .inr (10, [.ref xa1, .ref xa3, .ref xa15, .ref xa27, .ref xa28, .ref xa33, .ref xa38, .ref xa41, .ref xa45, .ref xa46, .ref xa47, .ref xa52, .ref xa54, .int 0, .ref xa55, .ref xa60, .ref xa62, .ref xa67, .int (-1)])), (xa3, .inr (2, [.ref xa4, .ref xa5, .ref xa6, .ref xa7, .ref xa8, .ref xa9, .ref xa10, .int 0, .int 0, .int 0, .int 5, .ref xa11, .ref xa12, .ref xa13, .ref xa14]))] := hD
    refine W.widen (k := 1) (n := 6) (Nat.le_of_ble_eq_true rfl) (Nat.le_of_ble_eq_true rfl) ?_
    refine lv_aload_n hx hb dX10_loop_4 rfl (lv_at hl 0 rfl) ?_
    refine lv_iload_n hx hb dX10_loop_5 rfl (lv_at hl 2 rfl) ?_
    have hPc := hP.sub (ws' := [(h0, .inr (10, [.ref xa1, .ref xa3, .ref xa15, .ref xa27, .ref xa28, .ref xa33, .ref xa38, .ref xa41, .ref xa45, .ref xa46, .ref xa47, .ref xa52, .ref xa54, .int 0, .ref xa55, .ref xa60, .ref xa62, .ref xa67, .int (-1)])), (xa3, .inr (2, [.ref xa4, .ref xa5, .ref xa6, .ref xa7, .ref xa8, .ref xa9, .ref xa10, .int 0, .int 0, .int 0, .int 5, .ref xa11, .ref xa12, .ref xa13, .ref xa14]))]) [0, 1] rfl
    have hDc := hD.sub (ws' := [(h0, .inr (10, [.ref xa1, .ref xa3, .ref xa15, .ref xa27, .ref xa28, .ref xa33, .ref xa38, .ref xa41, .ref xa45, .ref xa46, .ref xa47, .ref xa52, .ref xa54, .int 0, .ref xa55, .ref xa60, .ref xa62, .ref xa67, .int (-1)])), (xa3, .inr (2, [.ref xa4, .ref xa5, .ref xa6, .ref xa7, .ref xa8, .ref xa9, .ref xa10, .int 0, .int 0, .int 0, .int 5, .ref xa11, .ref xa12, .ref xa13, .ref xa14]))]) [0, 1] (by decide) rfl
    have hFc := va_free (wc := [(h0, .inr (10, [.ref xa1, .ref xa3, .ref xa15, .ref xa27, .ref xa28, .ref xa33, .ref xa38, .ref xa41, .ref xa45, .ref xa46, .ref xa47, .ref xa52, .ref xa54, .int 0, .ref xa55, .ref xa60, .ref xa62, .ref xa67, .int (-1)])), (xa3, .inr (2, [.ref xa4, .ref xa5, .ref xa6, .ref xa7, .ref xa8, .ref xa9, .ref xa10, .int 0, .int 0, .int 0, .int 5, .ref xa11, .ref xa12, .ref xa13, .ref xa14]))]) hD hS hA [0, 1] rfl
    refine vx_callv (vx_runV (As := [.int p1]) (rest := []) ⟨hx, hb, hml, hown, hts⟩ (k10_mustBeGoal l hst dC dI kB kI kJ kZ kC kS H.size h0 xa1 xa3 xa15 xa27 xa28 xa33 xa38 xa41 xa45 xa46 xa47 xa52 xa54 xa55 xa60 xa62 xa67 xa4 xa5 xa6 xa7 xa8 xa9 xa10 xa11 xa12 xa13 xa14 p1) (cwV 1 hts gX10_loop_X10_mustBeGoal rfl rfl rfl (by decide +kernel) ⟨Nat.le_of_ble_eq_true rfl, Nat.le_of_ble_eq_true rfl⟩) ⟨fun a U g mk q => by obtain ⟨q0, q1, qP, qE, qD, qX, qT⟩ := q; exact ⟨q0, q1, qP, kE_call qE, qD, kX_call qX, kT_call qT⟩, va_recv hK hP (ci := 10) (q0 := 0) rfl rfl, fun U hU hW => ⟨rfl, by rw [hU], by rw [hU]; exact hPc, kE_warm hW hE, hDc.weaken (fun _ _ _ _ => trivial), kX_warm hW hXs, kT_at hT hS hFc hW hU⟩⟩ rfl rfl hl.1 rfl (lv_room (Nat.le_of_ble_eq_true rfl)) dX10_loop_6 ⟨Nat.le_of_ble_eq_true rfl, Nat.le_of_ble_eq_true rfl⟩) hS (fun q _ h => hFc q h) hFc (fun q _ h => hFc q h) (fun E ce q9 u t H1 locs ht hvm hpx hBX hz1 hk1 hS hc9 hv9 hcl9 => ?_) (fun u t H1 locs ht hvm w4 hB hz1 hk1 hS => ?_)
    · exact vx_out (fun x h9 => (hexT x h9).elim) hlocks hc9 hv9 hcl9 (fun t9 ht9 hvm9 => ⟨(), trivial, hBX, hS.F ht9⟩) hS.2.2 (Nat.le_of_ble_eq_true rfl) (Nat.le_of_ble_eq_true rfl)
    · exact w4.elim
def rm_k10_sure : Room := { frames := 7, cells := 1, slots := 6, locals := 103 }
set_option maxHeartbeats 4000000 in
set_option maxRecDepth 100000 in
theorem k10_sure (l : Launch) (hst : l.stackTraces = false) (dC : Nat → ClassId) (dI : Nat → Nat → Nat) (kB kI kJ kZ kC kS : ClassId) (sz : Nat) (h0 : Nat) (xa1 : Nat) (xa3 : Nat) (xa15 : Nat) (xa27 : Nat) (xa28 : Nat) (xa33 : Nat) (xa38 : Nat) (xa41 : Nat) (xa45 : Nat) (xa46 : Nat) (xa47 : Nat) (xa52 : Nat) (xa54 : Nat) (xa55 : Nat) (xa60 : Nat) (xa62 : Nat) (xa67 : Nat) (xa4 : Nat) (xa5 : Nat) (xa6 : Nat) (xa7 : Nat) (xa8 : Nat) (xa9 : Nat) (xa10 : Nat) (xa11 : Nat) (xa12 : Nat) (xa13 : Nat) (xa14 : Nat) (p0 : Int32) (p1 : Int32) : vx_Met l yX10_sure wsX10_sure rm_k10_sure (va_Pc [.ref h0, .int p0, .int p1] (fun U => U.heap.size = sz ∧ va_P (dC, dI) vwCl [(h0, .inr (10, [.ref xa1, .ref xa3, .ref xa15, .ref xa27, .ref xa28, .ref xa33, .ref xa38, .ref xa41, .ref xa45, .ref xa46, .ref xa47, .ref xa52, .ref xa54, .int 0, .ref xa55, .ref xa60, .ref xa62, .ref xa67, .int (-1)])), (xa3, .inr (2, [.ref xa4, .ref xa5, .ref xa6, .ref xa7, .ref xa8, .ref xa9, .ref xa10, .int 0, .int 0, .int 0, .int 5, .ref xa11, .ref xa12, .ref xa13, .ref xa14]))] U.heap ∧ kE dC dI kB kI kJ kZ kC kS U ∧ va_D (fun _ => True) [(h0, .inr (10, [.ref xa1, .ref xa3, .ref xa15, .ref xa27, .ref xa28, .ref xa33, .ref xa38, .ref xa41, .ref xa45, .ref xa46, .ref xa47, .ref xa52, .ref xa54, .int 0, .ref xa55, .ref xa60, .ref xa62, .ref xa67, .int (-1)])), (xa3, .inr (2, [.ref xa4, .ref xa5, .ref xa6, .ref xa7, .ref xa8, .ref xa9, .ref xa10, .int 0, .int 0, .int 0, .int 5, .ref xa11, .ref xa12, .ref xa13, .ref xa14]))] ∧ kX U ∧ kT (va_A [(h0, .inr (10, [.ref xa1, .ref xa3, .ref xa15, .ref xa27, .ref xa28, .ref xa33, .ref xa38, .ref xa41, .ref xa45, .ref xa46, .ref xa47, .ref xa52, .ref xa54, .int 0, .ref xa55, .ref xa60, .ref xa62, .ref xa67, .int (-1)])), (xa3, .inr (2, [.ref xa4, .ref xa5, .ref xa6, .ref xa7, .ref xa8, .ref xa9, .ref xa10, .int 0, .int 0, .int 0, .int 5, .ref xa11, .ref xa12, .ref xa13, .ref xa14]))] sz) U)) (va_Ql (fun (r : Int64) (_ : Unit) => False) (fun _ t => va_P (dC, dI) vwCl [] t.heap ∧ va_D (va_A [(h0, .inr (10, [.ref xa1, .ref xa3, .ref xa15, .ref xa27, .ref xa28, .ref xa33, .ref xa38, .ref xa41, .ref xa45, .ref xa46, .ref xa47, .ref xa52, .ref xa54, .int 0, .ref xa55, .ref xa60, .ref xa62, .ref xa67, .int (-1)])), (xa3, .inr (2, [.ref xa4, .ref xa5, .ref xa6, .ref xa7, .ref xa8, .ref xa9, .ref xa10, .int 0, .int 0, .int 0, .int 5, .ref xa11, .ref xa12, .ref xa13, .ref xa14]))] sz) []) (va_A [(h0, .inr (10, [.ref xa1, .ref xa3, .ref xa15, .ref xa27, .ref xa28, .ref xa33, .ref xa38, .ref xa41, .ref xa45, .ref xa46, .ref xa47, .ref xa52, .ref xa54, .int 0, .ref xa55, .ref xa60, .ref xa62, .ref xa67, .int (-1)])), (xa3, .inr (2, [.ref xa4, .ref xa5, .ref xa6, .ref xa7, .ref xa8, .ref xa9, .ref xa10, .int 0, .int 0, .int 0, .int 5, .ref xa11, .ref xa12, .ref xa13, .ref xa14]))] sz)) (vx_X (fun (_ : Unit) => True) (fun (E : String) (_ : Unit) (_ : State) => E = "java/util/NoSuchElementException") (va_A [(h0, .inr (10, [.ref xa1, .ref xa3, .ref xa15, .ref xa27, .ref xa28, .ref xa33, .ref xa38, .ref xa41, .ref xa45, .ref xa46, .ref xa47, .ref xa52, .ref xa54, .int 0, .ref xa55, .ref xa60, .ref xa62, .ref xa67, .int (-1)])), (xa3, .inr (2, [.ref xa4, .ref xa5, .ref xa6, .ref xa7, .ref xa8, .ref xa9, .ref xa10, .int 0, .int 0, .int 0, .int 5, .ref xa11, .ref xa12, .ref xa13, .ref xa14]))] sz)) 1 6 (va_A [(h0, .inr (10, [.ref xa1, .ref xa3, .ref xa15, .ref xa27, .ref xa28, .ref xa33, .ref xa38, .ref xa41, .ref xa45, .ref xa46, .ref xa47, .ref xa52, .ref xa54, .int 0, .ref xa55, .ref xa60, .ref xa62, .ref xa67, .int (-1)])), (xa3, .inr (2, [.ref xa4, .ref xa5, .ref xa6, .ref xa7, .ref xa8, .ref xa9, .ref xa10, .int 0, .int 0, .int 0, .int 5, .ref xa11, .ref xa12, .ref xa13, .ref xa14]))] sz) := by
  refine vx_ofW (cc := cX10_sure) (maxL := 4) (ret := (some .long)) (by decide) rfl ?_
  intro p e s m args0 below meth c s₁ B hml hexT hv
  obtain ⟨hargs, hsz, hP, hE, hD0, hXs, hT⟩ := hv
  have hx := B.exec
  have hb := B.bytes
  have hr := B.returns
  have hts := atoms_spec (ws := wsX10_sure) B.pre
  have hown : s.vm.findClass RX10 = some m.cls := findClass_of_methodNamed B.named
  have hlocks := B.notSynchronized
  have hK := hE.1
  have hin10 : ∀ w ∈ wsX100, w ∈ wsX10_sure := fun _ h9 => List.mem_cons_of_mem _ (List.mem_append_left _ (List.mem_append_left _ (List.mem_append_left _ (List.mem_append_left _ (List.mem_append_right _ h9)))))
  have hin2 : ∀ w ∈ wsX20, w ∈ wsX10_sure := fun _ h9 => List.mem_cons_of_mem _ (List.mem_append_left _ (List.mem_append_left _ (List.mem_append_left _ (List.mem_append_right _ h9))))
  have hin0 : ∀ w ∈ wsX00, w ∈ wsX10_sure := fun _ h9 => List.mem_cons_of_mem _ (List.mem_append_left _ (List.mem_append_left _ (List.mem_append_right _ h9)))
  have hin4 : ∀ w ∈ wsX40, w ∈ wsX10_sure := fun _ h9 => List.mem_cons_of_mem _ (List.mem_append_left _ (List.mem_append_right _ h9))
  subst hsz
  have hD := hD0.self (sz := s.heap.size)
  generalize hAe : va_A [(h0, .inr (10, [.ref xa1, .ref xa3, .ref xa15, .ref xa27, .ref xa28, .ref xa33, .ref xa38, .ref xa41, .ref xa45, .ref xa46, .ref xa47, .ref xa52, .ref xa54, .int 0, .ref xa55, .ref xa60, .ref xa62, .ref xa67, .int (-1)])), (xa3, .inr (2, [.ref xa4, .ref xa5, .ref xa6, .ref xa7, .ref xa8, .ref xa9, .ref xa10, .int 0, .int 0, .int 0, .int 5, .ref xa11, .ref xa12, .ref xa13, .ref xa14]))] s.heap.size = A at hD hT ⊢
  have hA : ∀ q : Nat, s.heap.size ≤ q → A q := fun q h => by rw [← hAe]; exact Or.inr h
  have hS : va_S A s.heap s.heap [] := va_S.rf
  have hP : va_P (dC, dI) vwCl [(h0, .inr (10, [.ref xa1, .ref xa3, .ref xa15, .ref xa27, .ref xa28, .ref xa33, .ref xa38, .ref xa41, .ref xa45, .ref xa46, .ref xa47, .ref xa52, .ref xa54, .int 0, .ref xa55, .ref xa60, .ref xa62, .ref xa67, .int (-1)])), (xa3, .inr (2, [.ref xa4, .ref xa5, .ref xa6, .ref xa7, .ref xa8, .ref xa9, .ref xa10, .int 0, .int 0, .int 0, .int 5, .ref xa11, .ref xa12, .ref xa13, .ref xa14]))] s.heap := hP
  have hl := lv_entry ([.ref h0, .int p0, .int p1]) (n := 4) (Nat.le_of_ble_eq_true rfl)
  have hla : entryFrame m args0 4 = entryFrame m ([.ref h0, .int p0, .int p1] : List Value).toArray 4 := by rw [hargs]
  rw [hla, lg_entry_eq]
  generalize (lg_sl ([.ref h0, .int p0, .int p1]) ++ List.replicate (4 - (lg_sl ([.ref h0, .int p0, .int p1])).length) Slot.unset).toArray = ls at hl ⊢
  have hl : lv_has ls 4 [(0, .ref h0), (1, .int p0), (2, .int p1)] := hl
  refine lv_aload_n hx hb dX10_sure_0 rfl (lv_at hl 0 rfl) ?_
  refine lv_iload_n hx hb dX10_sure_1 rfl (lv_at hl 1 rfl) ?_
  have hPc := hP.sub (ws' := [(h0, .inr (10, [.ref xa1, .ref xa3, .ref xa15, .ref xa27, .ref xa28, .ref xa33, .ref xa38, .ref xa41, .ref xa45, .ref xa46, .ref xa47, .ref xa52, .ref xa54, .int 0, .ref xa55, .ref xa60, .ref xa62, .ref xa67, .int (-1)])), (xa3, .inr (2, [.ref xa4, .ref xa5, .ref xa6, .ref xa7, .ref xa8, .ref xa9, .ref xa10, .int 0, .int 0, .int 0, .int 5, .ref xa11, .ref xa12, .ref xa13, .ref xa14]))]) [0, 1] rfl
  have hDc := hD.sub (ws' := [(h0, .inr (10, [.ref xa1, .ref xa3, .ref xa15, .ref xa27, .ref xa28, .ref xa33, .ref xa38, .ref xa41, .ref xa45, .ref xa46, .ref xa47, .ref xa52, .ref xa54, .int 0, .ref xa55, .ref xa60, .ref xa62, .ref xa67, .int (-1)])), (xa3, .inr (2, [.ref xa4, .ref xa5, .ref xa6, .ref xa7, .ref xa8, .ref xa9, .ref xa10, .int 0, .int 0, .int 0, .int 5, .ref xa11, .ref xa12, .ref xa13, .ref xa14]))]) [0, 1] (by decide) rfl
  have hFc := va_free (wc := [(h0, .inr (10, [.ref xa1, .ref xa3, .ref xa15, .ref xa27, .ref xa28, .ref xa33, .ref xa38, .ref xa41, .ref xa45, .ref xa46, .ref xa47, .ref xa52, .ref xa54, .int 0, .ref xa55, .ref xa60, .ref xa62, .ref xa67, .int (-1)])), (xa3, .inr (2, [.ref xa4, .ref xa5, .ref xa6, .ref xa7, .ref xa8, .ref xa9, .ref xa10, .int 0, .int 0, .int 0, .int 5, .ref xa11, .ref xa12, .ref xa13, .ref xa14]))]) hD hS hA [0, 1] rfl
  refine vx_callv (vx_runV (As := [.int p0]) (rest := []) ⟨hx, hb, hml, hown, hts⟩ (k10_mustBeGoal l hst dC dI kB kI kJ kZ kC kS s.heap.size h0 xa1 xa3 xa15 xa27 xa28 xa33 xa38 xa41 xa45 xa46 xa47 xa52 xa54 xa55 xa60 xa62 xa67 xa4 xa5 xa6 xa7 xa8 xa9 xa10 xa11 xa12 xa13 xa14 p0) (cwV 1 hts gX10_sure_X10_mustBeGoal rfl rfl rfl (by decide +kernel) ⟨Nat.le_of_ble_eq_true rfl, Nat.le_of_ble_eq_true rfl⟩) ⟨fun a U g mk q => by obtain ⟨q0, q1, qP, qE, qD, qX, qT⟩ := q; exact ⟨q0, q1, qP, kE_call qE, qD, kX_call qX, kT_call qT⟩, va_recv hK hP (ci := 10) (q0 := 0) rfl rfl, fun U hU hW => ⟨rfl, by rw [hU], by rw [hU]; exact hPc, kE_warm hW hE, hDc.weaken (fun _ _ _ _ => trivial), kX_warm hW hXs, kT_at hT hS hFc hW hU⟩⟩ rfl rfl hl.1 rfl (lv_room (Nat.le_of_ble_eq_true rfl)) dX10_sure_2 ⟨Nat.le_of_ble_eq_true rfl, Nat.le_of_ble_eq_true rfl⟩) hS (fun q _ h => hFc q h) hFc (fun q _ h => hFc q h) (fun E ce q9 u t H1 locs ht hvm hpx hBX hz1 hk1 hS hc9 hv9 hcl9 => ?_) (fun u t H1 locs ht hvm w2 hB hz1 hk1 hS => ?_)
  · exact vx_out (fun x h9 => (hexT x h9).elim) hlocks hc9 hv9 hcl9 (fun t9 ht9 hvm9 => ⟨(), trivial, hBX, hS.F ht9⟩) hS.2.2 (Nat.le_of_ble_eq_true rfl) (Nat.le_of_ble_eq_true rfl)
  · exact w2.elim
def rm_k10_probe : Room := { frames := 1, cells := 0, slots := 0, locals := 21 }
set_option maxHeartbeats 4000000 in
set_option maxRecDepth 100000 in
theorem k10_probe (l : Launch) (dC : Nat → ClassId) (dI : Nat → Nat → Nat) (kB kI kJ kZ kC kS : ClassId) (sz : Nat) (h0 : Nat) (xa1 : Nat) (xa3 : Nat) (xa15 : Nat) (xa27 : Nat) (xa28 : Nat) (xa33 : Nat) (xa38 : Nat) (xa41 : Nat) (xa45 : Nat) (xa46 : Nat) (xa47 : Nat) (xa52 : Nat) (xa54 : Nat) (xa55 : Nat) (xa60 : Nat) (xa62 : Nat) (xa67 : Nat) (xa4 : Nat) (xa5 : Nat) (xa6 : Nat) (xa7 : Nat) (xa8 : Nat) (xa9 : Nat) (xa10 : Nat) (xa11 : Nat) (xa12 : Nat) (xa13 : Nat) (xa14 : Nat) (p0 : Int32) (p1 : Int32) (p2 : Int32) : Met l yX10_probe wsX10_probe rm_k10_probe (va_Pc [.ref h0, .int p0, .int p1, .int p2] (fun U => U.heap.size = sz ∧ va_P (dC, dI) vwCl [(h0, .inr (10, [.ref xa1, .ref xa3, .ref xa15, .ref xa27, .ref xa28, .ref xa33, .ref xa38, .ref xa41, .ref xa45, .ref xa46, .ref xa47, .ref xa52, .ref xa54, .int 0, .ref xa55, .ref xa60, .ref xa62, .ref xa67, .int (-1)])), (xa3, .inr (2, [.ref xa4, .ref xa5, .ref xa6, .ref xa7, .ref xa8, .ref xa9, .ref xa10, .int 0, .int 0, .int 0, .int 5, .ref xa11, .ref xa12, .ref xa13, .ref xa14])), (xa54, .inl (kI, 3, .inl (fun _ => 0)))] U.heap ∧ kE dC dI kB kI kJ kZ kC kS U ∧ va_D (fun _ => True) [(h0, .inr (10, [.ref xa1, .ref xa3, .ref xa15, .ref xa27, .ref xa28, .ref xa33, .ref xa38, .ref xa41, .ref xa45, .ref xa46, .ref xa47, .ref xa52, .ref xa54, .int 0, .ref xa55, .ref xa60, .ref xa62, .ref xa67, .int (-1)])), (xa3, .inr (2, [.ref xa4, .ref xa5, .ref xa6, .ref xa7, .ref xa8, .ref xa9, .ref xa10, .int 0, .int 0, .int 0, .int 5, .ref xa11, .ref xa12, .ref xa13, .ref xa14])), (xa54, .inl (kI, 3, .inl (fun _ => 0)))])) (va_Qi (fun (r : Int32) (_ : Unit) => r = -2) (fun _ t => va_P (dC, dI) vwCl [] t.heap ∧ va_D (va_A [(h0, .inr (10, [.ref xa1, .ref xa3, .ref xa15, .ref xa27, .ref xa28, .ref xa33, .ref xa38, .ref xa41, .ref xa45, .ref xa46, .ref xa47, .ref xa52, .ref xa54, .int 0, .ref xa55, .ref xa60, .ref xa62, .ref xa67, .int (-1)])), (xa3, .inr (2, [.ref xa4, .ref xa5, .ref xa6, .ref xa7, .ref xa8, .ref xa9, .ref xa10, .int 0, .int 0, .int 0, .int 5, .ref xa11, .ref xa12, .ref xa13, .ref xa14])), (xa54, .inl (kI, 3, .inl (fun _ => 0)))] sz) []) (va_A [(h0, .inr (10, [.ref xa1, .ref xa3, .ref xa15, .ref xa27, .ref xa28, .ref xa33, .ref xa38, .ref xa41, .ref xa45, .ref xa46, .ref xa47, .ref xa52, .ref xa54, .int 0, .ref xa55, .ref xa60, .ref xa62, .ref xa67, .int (-1)])), (xa3, .inr (2, [.ref xa4, .ref xa5, .ref xa6, .ref xa7, .ref xa8, .ref xa9, .ref xa10, .int 0, .int 0, .int 0, .int 5, .ref xa11, .ref xa12, .ref xa13, .ref xa14])), (xa54, .inl (kI, 3, .inl (fun _ => 0)))] sz)) 0 0 (va_A [(h0, .inr (10, [.ref xa1, .ref xa3, .ref xa15, .ref xa27, .ref xa28, .ref xa33, .ref xa38, .ref xa41, .ref xa45, .ref xa46, .ref xa47, .ref xa52, .ref xa54, .int 0, .ref xa55, .ref xa60, .ref xa62, .ref xa67, .int (-1)])), (xa3, .inr (2, [.ref xa4, .ref xa5, .ref xa6, .ref xa7, .ref xa8, .ref xa9, .ref xa10, .int 0, .int 0, .int 0, .int 5, .ref xa11, .ref xa12, .ref xa13, .ref xa14])), (xa54, .inl (kI, 3, .inl (fun _ => 0)))] sz) := by
  refine Met.ofW (cc := cX10_probe) (maxL := 4) (ret := (some .int)) (by decide) rfl ?_
  intro p e s m args0 below meth c s₁ B hml hv
  obtain ⟨hargs, hsz, hP, hE, hD0⟩ := hv
  have hx := B.exec
  have hb := B.bytes
  have hr := B.returns
  have hts := atoms_spec (ws := wsX10_probe) B.pre
  have hown : s.vm.findClass RX10 = some m.cls := findClass_of_methodNamed B.named
  have hlocks := B.notSynchronized
  have hK := hE.1
  have hin10 : ∀ w ∈ wsX100, w ∈ wsX10_probe := fun _ h9 => List.mem_cons_of_mem _ (List.mem_append_left _ (List.mem_append_left _ (List.mem_append_left _ (List.mem_append_left _ (List.mem_append_left _ (List.mem_append_right _ h9))))))
  have hin2 : ∀ w ∈ wsX20, w ∈ wsX10_probe := fun _ h9 => List.mem_cons_of_mem _ (List.mem_append_left _ (List.mem_append_left _ (List.mem_append_left _ (List.mem_append_left _ (List.mem_append_right _ h9)))))
  have hin1 : ∀ w ∈ wsX10, w ∈ wsX10_probe := fun _ h9 => List.mem_cons_of_mem _ (List.mem_append_left _ (List.mem_append_left _ (List.mem_append_left _ (List.mem_append_right _ h9))))
  have hin0 : ∀ w ∈ wsX00, w ∈ wsX10_probe := fun _ h9 => List.mem_cons_of_mem _ (List.mem_append_left _ (List.mem_append_left _ (List.mem_append_right _ h9)))
  have hin6 : ∀ w ∈ wsX60, w ∈ wsX10_probe := fun _ h9 => List.mem_cons_of_mem _ (List.mem_append_left _ (List.mem_append_right _ h9))
  have hin9 : ∀ w ∈ wsX90, w ∈ wsX10_probe := fun _ h9 => List.mem_cons_of_mem _ (List.mem_append_right _ h9)
  subst hsz
  have hD := hD0.self (sz := s.heap.size)
  generalize hAe : va_A [(h0, .inr (10, [.ref xa1, .ref xa3, .ref xa15, .ref xa27, .ref xa28, .ref xa33, .ref xa38, .ref xa41, .ref xa45, .ref xa46, .ref xa47, .ref xa52, .ref xa54, .int 0, .ref xa55, .ref xa60, .ref xa62, .ref xa67, .int (-1)])), (xa3, .inr (2, [.ref xa4, .ref xa5, .ref xa6, .ref xa7, .ref xa8, .ref xa9, .ref xa10, .int 0, .int 0, .int 0, .int 5, .ref xa11, .ref xa12, .ref xa13, .ref xa14])), (xa54, .inl (kI, 3, .inl (fun _ => 0)))] s.heap.size = A at hD ⊢
  have hA : ∀ q : Nat, s.heap.size ≤ q → A q := fun q h => by rw [← hAe]; exact Or.inr h
  have hS : va_S A s.heap s.heap [] := va_S.rf
  have hP : va_P (dC, dI) vwCl [(h0, .inr (10, [.ref xa1, .ref xa3, .ref xa15, .ref xa27, .ref xa28, .ref xa33, .ref xa38, .ref xa41, .ref xa45, .ref xa46, .ref xa47, .ref xa52, .ref xa54, .int 0, .ref xa55, .ref xa60, .ref xa62, .ref xa67, .int (-1)])), (xa3, .inr (2, [.ref xa4, .ref xa5, .ref xa6, .ref xa7, .ref xa8, .ref xa9, .ref xa10, .int 0, .int 0, .int 0, .int 5, .ref xa11, .ref xa12, .ref xa13, .ref xa14])), (xa54, .inl (kI, 3, .inl (fun _ => 0)))] s.heap := hP
  have hl := lv_entry ([.ref h0, .int p0, .int p1, .int p2]) (n := 4) (Nat.le_of_ble_eq_true rfl)
  have hla : entryFrame m args0 4 = entryFrame m ([.ref h0, .int p0, .int p1, .int p2] : List Value).toArray 4 := by rw [hargs]
  rw [hla, lg_entry_eq]
  generalize (lg_sl ([.ref h0, .int p0, .int p1, .int p2]) ++ List.replicate (4 - (lg_sl ([.ref h0, .int p0, .int p1, .int p2])).length) Slot.unset).toArray = ls at hl ⊢
  have hl : lv_has ls 4 [(0, .ref h0), (1, .int p0), (2, .int p1), (3, .int p2)] := hl
  refine lv_iload_n hx hb dX10_probe_0 rfl (lv_at hl 1 rfl) ?_
  have hPc := hP.sub (ws' := []) [] rfl
  have hDc := hD.sub (ws' := []) [] (by decide) rfl
  have hFc := va_free (wc := []) hD hS hA [] rfl
  refine va_calli (va_runS (As := [.int p0]) (rest := []) ⟨hx, hb, hml, hown, hts⟩ (k10_isPort l dC dI kB kI kJ kZ kC kS s.heap.size p0) (va_cwS 1 hts gX10_probe_X10_isPort rfl rfl rfl (by decide +kernel) ⟨Nat.le_of_ble_eq_true rfl, Nat.le_of_ble_eq_true rfl⟩) ⟨fun a U g mk q => by obtain ⟨q0, q1, qP, qE, qD⟩ := q; exact ⟨q0, q1, qP, kE_call qE, qD⟩, fun U hU hW => ⟨rfl, by rw [hU], by rw [hU]; exact hPc, kE_warm hW hE, hDc.weaken (fun _ _ _ _ => trivial)⟩⟩ rfl rfl hl.1 rfl (lv_room (Nat.le_of_ble_eq_true rfl)) dX10_probe_1 ⟨Nat.le_of_ble_eq_true rfl, Nat.le_of_ble_eq_true rfl⟩) hS (fun q _ h => hFc q h) hFc (fun r1 u t H1 locs ht hvm w2 hB hz1 hk1 hS => ?_)
  obtain ⟨hP1, hD1⟩ := hB
  rw [ht] at hP1
  try dsimp only at w2
  obtain ⟨hP, hD⟩ := va_join (wr := [(h0, .inr (10, [.ref xa1, .ref xa3, .ref xa15, .ref xa27, .ref xa28, .ref xa33, .ref xa38, .ref xa41, .ref xa45, .ref xa46, .ref xa47, .ref xa52, .ref xa54, .int 0, .ref xa55, .ref xa60, .ref xa62, .ref xa67, .int (-1)])), (xa3, .inr (2, [.ref xa4, .ref xa5, .ref xa6, .ref xa7, .ref xa8, .ref xa9, .ref xa10, .int 0, .int 0, .int 0, .int 5, .ref xa11, .ref xa12, .ref xa13, .ref xa14])), (xa54, .inl (kI, 3, .inl (fun _ => 0)))]) (w1 := []) hP hD [] [0, 1, 2] rfl rfl (by decide) (by decide) hk1 hFc hP1 hD1
  generalize H1 = H at hP hS ⊢
  have hP : va_P (dC, dI) vwCl [(h0, .inr (10, [.ref xa1, .ref xa3, .ref xa15, .ref xa27, .ref xa28, .ref xa33, .ref xa38, .ref xa41, .ref xa45, .ref xa46, .ref xa47, .ref xa52, .ref xa54, .int 0, .ref xa55, .ref xa60, .ref xa62, .ref xa67, .int (-1)])), (xa3, .inr (2, [.ref xa4, .ref xa5, .ref xa6, .ref xa7, .ref xa8, .ref xa9, .ref xa10, .int 0, .int 0, .int 0, .int 5, .ref xa11, .ref xa12, .ref xa13, .ref xa14])), (xa54, .inl (kI, 3, .inl (fun _ => 0)))] H := hP
  have hD : va_D A [(h0, .inr (10, [.ref xa1, .ref xa3, .ref xa15, .ref xa27, .ref xa28, .ref xa33, .ref xa38, .ref xa41, .ref xa45, .ref xa46, .ref xa47, .ref xa52, .ref xa54, .int 0, .ref xa55, .ref xa60, .ref xa62, .ref xa67, .int (-1)])), (xa3, .inr (2, [.ref xa4, .ref xa5, .ref xa6, .ref xa7, .ref xa8, .ref xa9, .ref xa10, .int 0, .int 0, .int 0, .int 5, .ref xa11, .ref xa12, .ref xa13, .ref xa14])), (xa54, .inl (kI, 3, .inl (fun _ => 0)))] := hD
  refine W.widen (k := 0) (n := 0) (Nat.le_of_ble_eq_true rfl) (Nat.le_of_ble_eq_true rfl) ?_
  refine lv_if_eq (tgt := 25) hx hb dX10_probe_4 (by decide) (fun c3 => ?_) (fun c3 => ?_)
  · refine lv_aload_n hx hb dX10_probe_25 rfl (lv_at hl 0 rfl) ?_
    refine va_get (D := (dC, dI)) (ci := 10) (v := .ref xa54) (C := RX10) (T := TX10) (N := 19) hx hb hts hin10 hown hK hP 0 rfl rfl 12 (by decide) (hts (.fieldLink RX10 93 "PathProber" "status" "[I") (List.mem_of_getElem? (i := 2) (by decide +kernel))) (fun _ h9 => h9) rfl dX10_probe_26 ?_
    refine lv_iconst (v := 1) hx hb dX10_probe_29 (by decide) ?_
    refine lv_dup2_11 hx hb dX10_probe_30 rfl rfl ?_
    refine va_iald hx hb hK hP 2 1 rfl rfl (vp_in_nI (n := 1) (by decide) (by decide)) dX10_probe_31 ?_
    refine lv_topi (fun z4 e5 => ?_)
    obtain rfl : z4 = (0 : Int32) := e5
    refine lv_iconst (v := 1) hx hb dX10_probe_32 (by decide) ?_
    refine lv_iadd hx hb dX10_probe_33 ?_
    refine lv_topi (fun z6 e7 => ?_)
    obtain rfl : z6 = (1 : Int32) := e7.trans (by decide)
    refine va_iast hx hb hK hP hD hS 2 1 rfl rfl (vp_in_nI (n := 1) (by decide) (by decide)) dX10_probe_34 (fun H locs hP hD hS => ?_)
    have hP : va_P (dC, dI) vwCl [(h0, .inr (10, [.ref xa1, .ref xa3, .ref xa15, .ref xa27, .ref xa28, .ref xa33, .ref xa38, .ref xa41, .ref xa45, .ref xa46, .ref xa47, .ref xa52, .ref xa54, .int 0, .ref xa55, .ref xa60, .ref xa62, .ref xa67, .int (-1)])), (xa3, .inr (2, [.ref xa4, .ref xa5, .ref xa6, .ref xa7, .ref xa8, .ref xa9, .ref xa10, .int 0, .int 0, .int 0, .int 5, .ref xa11, .ref xa12, .ref xa13, .ref xa14])), (xa54, .inl (kI, 3, .inl (upd (fun _ => 0) 1 1)))] H := hP
    have hD : va_D A [(h0, .inr (10, [.ref xa1, .ref xa3, .ref xa15, .ref xa27, .ref xa28, .ref xa33, .ref xa38, .ref xa41, .ref xa45, .ref xa46, .ref xa47, .ref xa52, .ref xa54, .int 0, .ref xa55, .ref xa60, .ref xa62, .ref xa67, .int (-1)])), (xa3, .inr (2, [.ref xa4, .ref xa5, .ref xa6, .ref xa7, .ref xa8, .ref xa9, .ref xa10, .int 0, .int 0, .int 0, .int 5, .ref xa11, .ref xa12, .ref xa13, .ref xa14])), (xa54, .inl (kI, 3, .inl (upd (fun _ => 0) 1 1)))] := hD
    refine lv_bipush (v := (-2)) hx hb dX10_probe_35 (by decide) ?_
    have hP9 := hP.sub (ws' := []) [] rfl
    have hD9 := hD.sub (ws' := []) [] (by decide) rfl
    exact W.iret (v := (-2)) hx hb hr (fun t ht hW => ⟨⟨(-2), (), rfl, rfl, by rw [ht]; exact hP9, hD9⟩, hS.F ht⟩) hS.2.2 dX10_probe_37
  · refine lv_aload_n hx hb dX10_probe_7 rfl (lv_at hl 0 rfl) ?_
    refine va_get (D := (dC, dI)) (ci := 10) (v := .ref xa3) (C := RX10) (T := TX10) (N := 19) hx hb hts hin10 hown hK hP 0 rfl rfl 1 (by decide) (hts (.fieldLink RX10 19 "PathProber" "told" "LPathProber$Net;") (List.mem_of_getElem? (i := 1) (by decide +kernel))) (fun _ h9 => h9) rfl dX10_probe_8 ?_
    refine lv_iload_n hx hb dX10_probe_11 rfl (lv_at hl 2 rfl) ?_
    have hPc := hP.sub (ws' := [(xa3, .inr (2, [.ref xa4, .ref xa5, .ref xa6, .ref xa7, .ref xa8, .ref xa9, .ref xa10, .int 0, .int 0, .int 0, .int 5, .ref xa11, .ref xa12, .ref xa13, .ref xa14]))]) [1] rfl
    have hDc := hD.sub (ws' := [(xa3, .inr (2, [.ref xa4, .ref xa5, .ref xa6, .ref xa7, .ref xa8, .ref xa9, .ref xa10, .int 0, .int 0, .int 0, .int 5, .ref xa11, .ref xa12, .ref xa13, .ref xa14]))]) [1] (by decide) rfl
    have hFc := va_free (wc := [(xa3, .inr (2, [.ref xa4, .ref xa5, .ref xa6, .ref xa7, .ref xa8, .ref xa9, .ref xa10, .int 0, .int 0, .int 0, .int 5, .ref xa11, .ref xa12, .ref xa13, .ref xa14]))]) hD hS hA [1] rfl
    refine va_calli (va_runV (As := [.int p1]) (rest := []) ⟨hx, hb, hml, hown, hts⟩ (k2_hasGoal l dC dI kB kI kJ kZ kC kS H.size xa3 xa4 xa5 xa6 xa7 xa8 xa9 xa10 xa11 xa12 xa13 xa14 p1) (cwV 1 hts gX10_probe_X2_hasGoal rfl rfl rfl (by decide +kernel) ⟨Nat.le_of_ble_eq_true rfl, Nat.le_of_ble_eq_true rfl⟩) ⟨fun a U g mk q => by obtain ⟨q0, q1, qP, qE, qD⟩ := q; exact ⟨q0, q1, qP, kE_call qE, qD⟩, va_recv hK hP (ci := 2) (q0 := 1) rfl rfl, fun U hU hW => ⟨rfl, by rw [hU], by rw [hU]; exact hPc, kE_warm hW hE, hDc.weaken (fun _ _ _ _ => trivial)⟩⟩ rfl rfl hl.1 rfl (lv_room (Nat.le_of_ble_eq_true rfl)) dX10_probe_12 ⟨Nat.le_of_ble_eq_true rfl, Nat.le_of_ble_eq_true rfl⟩) hS (fun q _ h => hFc q h) hFc (fun r8 u t H1 locs ht hvm w9 hB hz1 hk1 hS => ?_)
    obtain ⟨hP1, hD1⟩ := hB
    rw [ht] at hP1
    try dsimp only at w9
    obtain ⟨hP, hD⟩ := va_join (wr := [(h0, .inr (10, [.ref xa1, .ref xa3, .ref xa15, .ref xa27, .ref xa28, .ref xa33, .ref xa38, .ref xa41, .ref xa45, .ref xa46, .ref xa47, .ref xa52, .ref xa54, .int 0, .ref xa55, .ref xa60, .ref xa62, .ref xa67, .int (-1)])), (xa54, .inl (kI, 3, .inl (fun _ => 0)))]) (w1 := [(xa3, .inr (2, [.ref xa4, .ref xa5, .ref xa6, .ref xa7, .ref xa8, .ref xa9, .ref xa10, .int 0, .int 0, .int 0, .int 5, .ref xa11, .ref xa12, .ref xa13, .ref xa14]))]) hP hD [1] [0, 2] rfl rfl (by decide) (by decide) hk1 hFc hP1 hD1
    generalize H1 = H at hP hS ⊢
    have hP : va_P (dC, dI) vwCl [(h0, .inr (10, [.ref xa1, .ref xa3, .ref xa15, .ref xa27, .ref xa28, .ref xa33, .ref xa38, .ref xa41, .ref xa45, .ref xa46, .ref xa47, .ref xa52, .ref xa54, .int 0, .ref xa55, .ref xa60, .ref xa62, .ref xa67, .int (-1)])), (xa54, .inl (kI, 3, .inl (fun _ => 0))), (xa3, .inr (2, [.ref xa4, .ref xa5, .ref xa6, .ref xa7, .ref xa8, .ref xa9, .ref xa10, .int 0, .int 0, .int 0, .int 5, .ref xa11, .ref xa12, .ref xa13, .ref xa14]))] H := hP
    have hD : va_D A [(h0, .inr (10, [.ref xa1, .ref xa3, .ref xa15, .ref xa27, .ref xa28, .ref xa33, .ref xa38, .ref xa41, .ref xa45, .ref xa46, .ref xa47, .ref xa52, .ref xa54, .int 0, .ref xa55, .ref xa60, .ref xa62, .ref xa67, .int (-1)])), (xa54, .inl (kI, 3, .inl (fun _ => 0))), (xa3, .inr (2, [.ref xa4, .ref xa5, .ref xa6, .ref xa7, .ref xa8, .ref xa9, .ref xa10, .int 0, .int 0, .int 0, .int 5, .ref xa11, .ref xa12, .ref xa13, .ref xa14]))] := hD
    refine W.widen (k := 0) (n := 0) (Nat.le_of_ble_eq_true rfl) (Nat.le_of_ble_eq_true rfl) ?_
    subst w9
    refine lv_if_eq (tgt := 25) hx hb dX10_probe_15 (by decide) (fun _ => ?_) (fun c9 => absurd (by decide) c9)
    refine lv_aload_n hx hb dX10_probe_25 rfl (lv_at hl 0 rfl) ?_
    refine va_get (D := (dC, dI)) (ci := 10) (v := .ref xa54) (C := RX10) (T := TX10) (N := 19) hx hb hts hin10 hown hK hP 0 rfl rfl 12 (by decide) (hts (.fieldLink RX10 93 "PathProber" "status" "[I") (List.mem_of_getElem? (i := 2) (by decide +kernel))) (fun _ h9 => h9) rfl dX10_probe_26 ?_
    refine lv_iconst (v := 1) hx hb dX10_probe_29 (by decide) ?_
    refine lv_dup2_11 hx hb dX10_probe_30 rfl rfl ?_
    refine va_iald hx hb hK hP 1 1 rfl rfl (vp_in_nI (n := 1) (by decide) (by decide)) dX10_probe_31 ?_
    refine lv_topi (fun z10 e11 => ?_)
    obtain rfl : z10 = (0 : Int32) := e11
    refine lv_iconst (v := 1) hx hb dX10_probe_32 (by decide) ?_
    refine lv_iadd hx hb dX10_probe_33 ?_
    refine lv_topi (fun z12 e13 => ?_)
    obtain rfl : z12 = (1 : Int32) := e13.trans (by decide)
    refine va_iast hx hb hK hP hD hS 1 1 rfl rfl (vp_in_nI (n := 1) (by decide) (by decide)) dX10_probe_34 (fun H locs hP hD hS => ?_)
    have hP : va_P (dC, dI) vwCl [(h0, .inr (10, [.ref xa1, .ref xa3, .ref xa15, .ref xa27, .ref xa28, .ref xa33, .ref xa38, .ref xa41, .ref xa45, .ref xa46, .ref xa47, .ref xa52, .ref xa54, .int 0, .ref xa55, .ref xa60, .ref xa62, .ref xa67, .int (-1)])), (xa54, .inl (kI, 3, .inl (upd (fun _ => 0) 1 1))), (xa3, .inr (2, [.ref xa4, .ref xa5, .ref xa6, .ref xa7, .ref xa8, .ref xa9, .ref xa10, .int 0, .int 0, .int 0, .int 5, .ref xa11, .ref xa12, .ref xa13, .ref xa14]))] H := hP
    have hD : va_D A [(h0, .inr (10, [.ref xa1, .ref xa3, .ref xa15, .ref xa27, .ref xa28, .ref xa33, .ref xa38, .ref xa41, .ref xa45, .ref xa46, .ref xa47, .ref xa52, .ref xa54, .int 0, .ref xa55, .ref xa60, .ref xa62, .ref xa67, .int (-1)])), (xa54, .inl (kI, 3, .inl (upd (fun _ => 0) 1 1))), (xa3, .inr (2, [.ref xa4, .ref xa5, .ref xa6, .ref xa7, .ref xa8, .ref xa9, .ref xa10, .int 0, .int 0, .int 0, .int 5, .ref xa11, .ref xa12, .ref xa13, .ref xa14]))] := hD
    refine lv_bipush (v := (-2)) hx hb dX10_probe_35 (by decide) ?_
    have hP9 := hP.sub (ws' := []) [] rfl
    have hD9 := hD.sub (ws' := []) [] (by decide) rfl
    exact W.iret (v := (-2)) hx hb hr (fun t ht hW => ⟨⟨(-2), (), rfl, rfl, by rw [ht]; exact hP9, hD9⟩, hS.F ht⟩) hS.2.2 dX10_probe_37
def rm_k10_ping : Room := { frames := 2, cells := 0, slots := 0, locals := 42 }
set_option maxHeartbeats 4000000 in
set_option maxRecDepth 100000 in
theorem k10_ping (l : Launch) (dC : Nat → ClassId) (dI : Nat → Nat → Nat) (kB kI kJ kZ kC kS : ClassId) (sz : Nat) (h0 : Nat) (xa1 : Nat) (xa3 : Nat) (xa15 : Nat) (xa27 : Nat) (xa28 : Nat) (xa33 : Nat) (xa38 : Nat) (xa41 : Nat) (xa45 : Nat) (xa46 : Nat) (xa47 : Nat) (xa52 : Nat) (xa54 : Nat) (xa55 : Nat) (xa60 : Nat) (xa62 : Nat) (xa67 : Nat) (xa4 : Nat) (xa5 : Nat) (xa6 : Nat) (xa7 : Nat) (xa8 : Nat) (xa9 : Nat) (xa10 : Nat) (xa11 : Nat) (xa12 : Nat) (xa13 : Nat) (xa14 : Nat) (p0 : Int32) : Met l yX10_ping wsX10_ping rm_k10_ping (va_Pc [.ref h0, .int p0] (fun U => U.heap.size = sz ∧ va_P (dC, dI) vwCl [(h0, .inr (10, [.ref xa1, .ref xa3, .ref xa15, .ref xa27, .ref xa28, .ref xa33, .ref xa38, .ref xa41, .ref xa45, .ref xa46, .ref xa47, .ref xa52, .ref xa54, .int 0, .ref xa55, .ref xa60, .ref xa62, .ref xa67, .int (-1)])), (xa3, .inr (2, [.ref xa4, .ref xa5, .ref xa6, .ref xa7, .ref xa8, .ref xa9, .ref xa10, .int 0, .int 0, .int 0, .int 5, .ref xa11, .ref xa12, .ref xa13, .ref xa14])), (xa54, .inl (kI, 3, .inl (fun _ => 0)))] U.heap ∧ kE dC dI kB kI kJ kZ kC kS U ∧ va_D (fun _ => True) [(h0, .inr (10, [.ref xa1, .ref xa3, .ref xa15, .ref xa27, .ref xa28, .ref xa33, .ref xa38, .ref xa41, .ref xa45, .ref xa46, .ref xa47, .ref xa52, .ref xa54, .int 0, .ref xa55, .ref xa60, .ref xa62, .ref xa67, .int (-1)])), (xa3, .inr (2, [.ref xa4, .ref xa5, .ref xa6, .ref xa7, .ref xa8, .ref xa9, .ref xa10, .int 0, .int 0, .int 0, .int 5, .ref xa11, .ref xa12, .ref xa13, .ref xa14])), (xa54, .inl (kI, 3, .inl (fun _ => 0)))])) (va_Qi (fun (r : Int32) (_ : Unit) => r = -1) (fun _ t => va_P (dC, dI) vwCl [] t.heap ∧ va_D (va_A [(h0, .inr (10, [.ref xa1, .ref xa3, .ref xa15, .ref xa27, .ref xa28, .ref xa33, .ref xa38, .ref xa41, .ref xa45, .ref xa46, .ref xa47, .ref xa52, .ref xa54, .int 0, .ref xa55, .ref xa60, .ref xa62, .ref xa67, .int (-1)])), (xa3, .inr (2, [.ref xa4, .ref xa5, .ref xa6, .ref xa7, .ref xa8, .ref xa9, .ref xa10, .int 0, .int 0, .int 0, .int 5, .ref xa11, .ref xa12, .ref xa13, .ref xa14])), (xa54, .inl (kI, 3, .inl (fun _ => 0)))] sz) []) (va_A [(h0, .inr (10, [.ref xa1, .ref xa3, .ref xa15, .ref xa27, .ref xa28, .ref xa33, .ref xa38, .ref xa41, .ref xa45, .ref xa46, .ref xa47, .ref xa52, .ref xa54, .int 0, .ref xa55, .ref xa60, .ref xa62, .ref xa67, .int (-1)])), (xa3, .inr (2, [.ref xa4, .ref xa5, .ref xa6, .ref xa7, .ref xa8, .ref xa9, .ref xa10, .int 0, .int 0, .int 0, .int 5, .ref xa11, .ref xa12, .ref xa13, .ref xa14])), (xa54, .inl (kI, 3, .inl (fun _ => 0)))] sz)) 0 0 (va_A [(h0, .inr (10, [.ref xa1, .ref xa3, .ref xa15, .ref xa27, .ref xa28, .ref xa33, .ref xa38, .ref xa41, .ref xa45, .ref xa46, .ref xa47, .ref xa52, .ref xa54, .int 0, .ref xa55, .ref xa60, .ref xa62, .ref xa67, .int (-1)])), (xa3, .inr (2, [.ref xa4, .ref xa5, .ref xa6, .ref xa7, .ref xa8, .ref xa9, .ref xa10, .int 0, .int 0, .int 0, .int 5, .ref xa11, .ref xa12, .ref xa13, .ref xa14])), (xa54, .inl (kI, 3, .inl (fun _ => 0)))] sz) := by
  refine Met.ofW (cc := cX10_ping) (maxL := 2) (ret := (some .int)) (by decide) rfl ?_
  intro p e s m args0 below meth c s₁ B hml hv
  obtain ⟨hargs, hsz, hP, hE, hD0⟩ := hv
  have hx := B.exec
  have hb := B.bytes
  have hr := B.returns
  have hts := atoms_spec (ws := wsX10_ping) B.pre
  have hown : s.vm.findClass RX10 = some m.cls := findClass_of_methodNamed B.named
  have hlocks := B.notSynchronized
  have hK := hE.1
  have hin10 : ∀ w ∈ wsX100, w ∈ wsX10_ping := fun _ h9 => List.mem_cons_of_mem _ (List.mem_append_left _ (List.mem_append_left _ (List.mem_append_left _ (List.mem_append_left _ (List.mem_append_left _ (List.mem_append_right _ h9))))))
  have hin2 : ∀ w ∈ wsX20, w ∈ wsX10_ping := fun _ h9 => List.mem_cons_of_mem _ (List.mem_append_left _ (List.mem_append_left _ (List.mem_append_left _ (List.mem_append_left _ (List.mem_append_right _ h9)))))
  have hin7 : ∀ w ∈ wsX70, w ∈ wsX10_ping := fun _ h9 => List.mem_cons_of_mem _ (List.mem_append_left _ (List.mem_append_left _ (List.mem_append_left _ (List.mem_append_right _ h9))))
  have hin0 : ∀ w ∈ wsX00, w ∈ wsX10_ping := fun _ h9 => List.mem_cons_of_mem _ (List.mem_append_left _ (List.mem_append_left _ (List.mem_append_right _ h9)))
  have hin1 : ∀ w ∈ wsX10, w ∈ wsX10_ping := fun _ h9 => List.mem_cons_of_mem _ (List.mem_append_left _ (List.mem_append_right _ h9))
  have hin6 : ∀ w ∈ wsX60, w ∈ wsX10_ping := fun _ h9 => List.mem_cons_of_mem _ (List.mem_append_right _ h9)
  subst hsz
  have hD := hD0.self (sz := s.heap.size)
  generalize hAe : va_A [(h0, .inr (10, [.ref xa1, .ref xa3, .ref xa15, .ref xa27, .ref xa28, .ref xa33, .ref xa38, .ref xa41, .ref xa45, .ref xa46, .ref xa47, .ref xa52, .ref xa54, .int 0, .ref xa55, .ref xa60, .ref xa62, .ref xa67, .int (-1)])), (xa3, .inr (2, [.ref xa4, .ref xa5, .ref xa6, .ref xa7, .ref xa8, .ref xa9, .ref xa10, .int 0, .int 0, .int 0, .int 5, .ref xa11, .ref xa12, .ref xa13, .ref xa14])), (xa54, .inl (kI, 3, .inl (fun _ => 0)))] s.heap.size = A at hD ⊢
  have hA : ∀ q : Nat, s.heap.size ≤ q → A q := fun q h => by rw [← hAe]; exact Or.inr h
  have hS : va_S A s.heap s.heap [] := va_S.rf
  have hP : va_P (dC, dI) vwCl [(h0, .inr (10, [.ref xa1, .ref xa3, .ref xa15, .ref xa27, .ref xa28, .ref xa33, .ref xa38, .ref xa41, .ref xa45, .ref xa46, .ref xa47, .ref xa52, .ref xa54, .int 0, .ref xa55, .ref xa60, .ref xa62, .ref xa67, .int (-1)])), (xa3, .inr (2, [.ref xa4, .ref xa5, .ref xa6, .ref xa7, .ref xa8, .ref xa9, .ref xa10, .int 0, .int 0, .int 0, .int 5, .ref xa11, .ref xa12, .ref xa13, .ref xa14])), (xa54, .inl (kI, 3, .inl (fun _ => 0)))] s.heap := hP
  have hl := lv_entry ([.ref h0, .int p0]) (n := 2) (Nat.le_of_ble_eq_true rfl)
  have hla : entryFrame m args0 2 = entryFrame m ([.ref h0, .int p0] : List Value).toArray 2 := by rw [hargs]
  rw [hla, lg_entry_eq]
  generalize (lg_sl ([.ref h0, .int p0]) ++ List.replicate (2 - (lg_sl ([.ref h0, .int p0])).length) Slot.unset).toArray = ls at hl ⊢
  have hl : lv_has ls 2 [(0, .ref h0), (1, .int p0)] := hl
  refine lv_aload_n hx hb dX10_ping_0 rfl (lv_at hl 0 rfl) ?_
  refine lv_iload_n hx hb dX10_ping_1 rfl (lv_at hl 1 rfl) ?_
  have hPc := hP.sub (ws' := [(h0, .inr (10, [.ref xa1, .ref xa3, .ref xa15, .ref xa27, .ref xa28, .ref xa33, .ref xa38, .ref xa41, .ref xa45, .ref xa46, .ref xa47, .ref xa52, .ref xa54, .int 0, .ref xa55, .ref xa60, .ref xa62, .ref xa67, .int (-1)])), (xa3, .inr (2, [.ref xa4, .ref xa5, .ref xa6, .ref xa7, .ref xa8, .ref xa9, .ref xa10, .int 0, .int 0, .int 0, .int 5, .ref xa11, .ref xa12, .ref xa13, .ref xa14]))]) [0, 1] rfl
  have hDc := hD.sub (ws' := [(h0, .inr (10, [.ref xa1, .ref xa3, .ref xa15, .ref xa27, .ref xa28, .ref xa33, .ref xa38, .ref xa41, .ref xa45, .ref xa46, .ref xa47, .ref xa52, .ref xa54, .int 0, .ref xa55, .ref xa60, .ref xa62, .ref xa67, .int (-1)])), (xa3, .inr (2, [.ref xa4, .ref xa5, .ref xa6, .ref xa7, .ref xa8, .ref xa9, .ref xa10, .int 0, .int 0, .int 0, .int 5, .ref xa11, .ref xa12, .ref xa13, .ref xa14]))]) [0, 1] (by decide) rfl
  have hFc := va_free (wc := [(h0, .inr (10, [.ref xa1, .ref xa3, .ref xa15, .ref xa27, .ref xa28, .ref xa33, .ref xa38, .ref xa41, .ref xa45, .ref xa46, .ref xa47, .ref xa52, .ref xa54, .int 0, .ref xa55, .ref xa60, .ref xa62, .ref xa67, .int (-1)])), (xa3, .inr (2, [.ref xa4, .ref xa5, .ref xa6, .ref xa7, .ref xa8, .ref xa9, .ref xa10, .int 0, .int 0, .int 0, .int 5, .ref xa11, .ref xa12, .ref xa13, .ref xa14]))]) hD hS hA [0, 1] rfl
  refine va_calli (va_runV (As := [.int p0]) (rest := []) ⟨hx, hb, hml, hown, hts⟩ (k10_wasSeen l dC dI kB kI kJ kZ kC kS s.heap.size h0 xa1 xa3 xa15 xa27 xa28 xa33 xa38 xa41 xa45 xa46 xa47 xa52 xa54 xa55 xa60 xa62 xa67 xa4 xa5 xa6 xa7 xa8 xa9 xa10 xa11 xa12 xa13 xa14 p0) (cwV 1 hts gX10_ping_X10_wasSeen rfl rfl rfl (by decide +kernel) ⟨Nat.le_of_ble_eq_true rfl, Nat.le_of_ble_eq_true rfl⟩) ⟨fun a U g mk q => by obtain ⟨q0, q1, qP, qE, qD⟩ := q; exact ⟨q0, q1, qP, kE_call qE, qD⟩, va_recv hK hP (ci := 10) (q0 := 0) rfl rfl, fun U hU hW => ⟨rfl, by rw [hU], by rw [hU]; exact hPc, kE_warm hW hE, hDc.weaken (fun _ _ _ _ => trivial)⟩⟩ rfl rfl hl.1 rfl (lv_room (Nat.le_of_ble_eq_true rfl)) dX10_ping_2 ⟨Nat.le_of_ble_eq_true rfl, Nat.le_of_ble_eq_true rfl⟩) hS (fun q _ h => hFc q h) hFc (fun r1 u t H1 locs ht hvm w2 hB hz1 hk1 hS => ?_)
  obtain ⟨hP1, hD1⟩ := hB
  rw [ht] at hP1
  try dsimp only at w2
  obtain ⟨hP, hD⟩ := va_join (wr := [(xa54, .inl (kI, 3, .inl (fun _ => 0)))]) (w1 := [(h0, .inr (10, [.ref xa1, .ref xa3, .ref xa15, .ref xa27, .ref xa28, .ref xa33, .ref xa38, .ref xa41, .ref xa45, .ref xa46, .ref xa47, .ref xa52, .ref xa54, .int 0, .ref xa55, .ref xa60, .ref xa62, .ref xa67, .int (-1)])), (xa3, .inr (2, [.ref xa4, .ref xa5, .ref xa6, .ref xa7, .ref xa8, .ref xa9, .ref xa10, .int 0, .int 0, .int 0, .int 5, .ref xa11, .ref xa12, .ref xa13, .ref xa14]))]) hP hD [0, 1] [2] rfl rfl (by decide) (by decide) hk1 hFc hP1 hD1
  generalize H1 = H at hP hS ⊢
  have hP : va_P (dC, dI) vwCl [(xa54, .inl (kI, 3, .inl (fun _ => 0))), (h0, .inr (10, [.ref xa1, .ref xa3, .ref xa15, .ref xa27, .ref xa28, .ref xa33, .ref xa38, .ref xa41, .ref xa45, .ref xa46, .ref xa47, .ref xa52, .ref xa54, .int 0, .ref xa55, .ref xa60, .ref xa62, .ref xa67, .int (-1)])), (xa3, .inr (2, [.ref xa4, .ref xa5, .ref xa6, .ref xa7, .ref xa8, .ref xa9, .ref xa10, .int 0, .int 0, .int 0, .int 5, .ref xa11, .ref xa12, .ref xa13, .ref xa14]))] H := hP
  have hD : va_D A [(xa54, .inl (kI, 3, .inl (fun _ => 0))), (h0, .inr (10, [.ref xa1, .ref xa3, .ref xa15, .ref xa27, .ref xa28, .ref xa33, .ref xa38, .ref xa41, .ref xa45, .ref xa46, .ref xa47, .ref xa52, .ref xa54, .int 0, .ref xa55, .ref xa60, .ref xa62, .ref xa67, .int (-1)])), (xa3, .inr (2, [.ref xa4, .ref xa5, .ref xa6, .ref xa7, .ref xa8, .ref xa9, .ref xa10, .int 0, .int 0, .int 0, .int 5, .ref xa11, .ref xa12, .ref xa13, .ref xa14]))] := hD
  refine W.widen (k := 0) (n := 0) (Nat.le_of_ble_eq_true rfl) (Nat.le_of_ble_eq_true rfl) ?_
  subst w2
  refine lv_if_ne (tgt := 13) hx hb dX10_ping_5 (by decide) (fun c9 => absurd (by decide) c9) (fun _ => ?_)
  refine lv_aload_n hx hb dX10_ping_8 rfl (lv_at hl 0 rfl) ?_
  have hPc := hP.sub (ws' := [(h0, .inr (10, [.ref xa1, .ref xa3, .ref xa15, .ref xa27, .ref xa28, .ref xa33, .ref xa38, .ref xa41, .ref xa45, .ref xa46, .ref xa47, .ref xa52, .ref xa54, .int 0, .ref xa55, .ref xa60, .ref xa62, .ref xa67, .int (-1)])), (xa54, .inl (kI, 3, .inl (fun _ => 0)))]) [1, 0] rfl
  have hDc := hD.sub (ws' := [(h0, .inr (10, [.ref xa1, .ref xa3, .ref xa15, .ref xa27, .ref xa28, .ref xa33, .ref xa38, .ref xa41, .ref xa45, .ref xa46, .ref xa47, .ref xa52, .ref xa54, .int 0, .ref xa55, .ref xa60, .ref xa62, .ref xa67, .int (-1)])), (xa54, .inl (kI, 3, .inl (fun _ => 0)))]) [1, 0] (by decide) rfl
  have hFc := va_free (wc := [(h0, .inr (10, [.ref xa1, .ref xa3, .ref xa15, .ref xa27, .ref xa28, .ref xa33, .ref xa38, .ref xa41, .ref xa45, .ref xa46, .ref xa47, .ref xa52, .ref xa54, .int 0, .ref xa55, .ref xa60, .ref xa62, .ref xa67, .int (-1)])), (xa54, .inl (kI, 3, .inl (fun _ => 0)))]) hD hS hA [1, 0] rfl
  refine va_calli (va_runV (As := []) (rest := []) ⟨hx, hb, hml, hown, hts⟩ (k10_refuseAct l dC dI kB kI kJ kZ kC kS H.size h0 xa1 xa3 xa15 xa27 xa28 xa33 xa38 xa41 xa45 xa46 xa47 xa52 xa54 xa55 xa60 xa62 xa67) (cwV 0 hts gX10_ping_X10_refuseAct rfl rfl rfl (by decide +kernel) ⟨Nat.le_of_ble_eq_true rfl, Nat.le_of_ble_eq_true rfl⟩) ⟨fun a U g mk q => by obtain ⟨q0, q1, qP, qE, qD⟩ := q; exact ⟨q0, q1, qP, kE_call qE, qD⟩, va_recv hK hP (ci := 10) (q0 := 1) rfl rfl, fun U hU hW => ⟨rfl, by rw [hU], by rw [hU]; exact hPc, kE_warm hW hE, hDc.weaken (fun _ _ _ _ => trivial)⟩⟩ rfl rfl hl.1 rfl (lv_room (Nat.le_of_ble_eq_true rfl)) dX10_ping_9 ⟨Nat.le_of_ble_eq_true rfl, Nat.le_of_ble_eq_true rfl⟩) hS (fun q _ h => hFc q h) hFc (fun r3 u t H1 locs ht hvm w4 hB hz1 hk1 hS => ?_)
  obtain ⟨hP1, hD1⟩ := hB
  rw [ht] at hP1
  try dsimp only at w4
  obtain ⟨hP, hD⟩ := va_join (wr := [(xa3, .inr (2, [.ref xa4, .ref xa5, .ref xa6, .ref xa7, .ref xa8, .ref xa9, .ref xa10, .int 0, .int 0, .int 0, .int 5, .ref xa11, .ref xa12, .ref xa13, .ref xa14]))]) (w1 := []) hP hD [1, 0] [2] rfl rfl (by decide) (by decide) hk1 hFc hP1 hD1
  generalize H1 = H at hP hS ⊢
  have hP : va_P (dC, dI) vwCl [(xa3, .inr (2, [.ref xa4, .ref xa5, .ref xa6, .ref xa7, .ref xa8, .ref xa9, .ref xa10, .int 0, .int 0, .int 0, .int 5, .ref xa11, .ref xa12, .ref xa13, .ref xa14]))] H := hP
  have hD : va_D A [(xa3, .inr (2, [.ref xa4, .ref xa5, .ref xa6, .ref xa7, .ref xa8, .ref xa9, .ref xa10, .int 0, .int 0, .int 0, .int 5, .ref xa11, .ref xa12, .ref xa13, .ref xa14]))] := hD
  refine W.widen (k := 0) (n := 0) (Nat.le_of_ble_eq_true rfl) (Nat.le_of_ble_eq_true rfl) ?_
  subst w4
  have hP9 := hP.sub (ws' := []) [] rfl
  have hD9 := hD.sub (ws' := []) [] (by decide) rfl
  exact W.iret (v := (-1)) hx hb hr (fun t ht hW => ⟨⟨(-1), (), rfl, rfl, by rw [ht]; exact hP9, hD9⟩, hS.F ht⟩) hS.2.2 dX10_ping_12
def rm_k10_sweep : Room := { frames := 1, cells := 0, slots := 0, locals := 21 }
set_option maxHeartbeats 4000000 in
set_option maxRecDepth 100000 in
theorem k10_sweep (l : Launch) (dC : Nat → ClassId) (dI : Nat → Nat → Nat) (kB kI kJ kZ kC kS : ClassId) (sz : Nat) (h0 : Nat) (xa1 : Nat) (xa3 : Nat) (xa15 : Nat) (xa27 : Nat) (xa28 : Nat) (xa33 : Nat) (xa38 : Nat) (xa41 : Nat) (xa45 : Nat) (xa46 : Nat) (xa47 : Nat) (xa52 : Nat) (xa54 : Nat) (xa55 : Nat) (xa60 : Nat) (xa62 : Nat) (xa67 : Nat) (xa4 : Nat) (xa5 : Nat) (xa6 : Nat) (xa7 : Nat) (xa8 : Nat) (xa9 : Nat) (xa10 : Nat) (xa11 : Nat) (xa12 : Nat) (xa13 : Nat) (xa14 : Nat) (p0 : Int32) (p1 : Int32) : Met l yX10_sweep wsX10_sweep rm_k10_sweep (va_Pc [.ref h0, .int p0, .int p1] (fun U => U.heap.size = sz ∧ va_P (dC, dI) vwCl [(h0, .inr (10, [.ref xa1, .ref xa3, .ref xa15, .ref xa27, .ref xa28, .ref xa33, .ref xa38, .ref xa41, .ref xa45, .ref xa46, .ref xa47, .ref xa52, .ref xa54, .int 0, .ref xa55, .ref xa60, .ref xa62, .ref xa67, .int (-1)])), (xa3, .inr (2, [.ref xa4, .ref xa5, .ref xa6, .ref xa7, .ref xa8, .ref xa9, .ref xa10, .int 0, .int 0, .int 0, .int 5, .ref xa11, .ref xa12, .ref xa13, .ref xa14])), (xa54, .inl (kI, 3, .inl (fun _ => 0)))] U.heap ∧ kE dC dI kB kI kJ kZ kC kS U ∧ va_D (fun _ => True) [(h0, .inr (10, [.ref xa1, .ref xa3, .ref xa15, .ref xa27, .ref xa28, .ref xa33, .ref xa38, .ref xa41, .ref xa45, .ref xa46, .ref xa47, .ref xa52, .ref xa54, .int 0, .ref xa55, .ref xa60, .ref xa62, .ref xa67, .int (-1)])), (xa3, .inr (2, [.ref xa4, .ref xa5, .ref xa6, .ref xa7, .ref xa8, .ref xa9, .ref xa10, .int 0, .int 0, .int 0, .int 5, .ref xa11, .ref xa12, .ref xa13, .ref xa14])), (xa54, .inl (kI, 3, .inl (fun _ => 0)))])) (va_Qi (fun (r : Int32) (_ : Unit) => r = -1) (fun _ t => va_P (dC, dI) vwCl [] t.heap ∧ va_D (va_A [(h0, .inr (10, [.ref xa1, .ref xa3, .ref xa15, .ref xa27, .ref xa28, .ref xa33, .ref xa38, .ref xa41, .ref xa45, .ref xa46, .ref xa47, .ref xa52, .ref xa54, .int 0, .ref xa55, .ref xa60, .ref xa62, .ref xa67, .int (-1)])), (xa3, .inr (2, [.ref xa4, .ref xa5, .ref xa6, .ref xa7, .ref xa8, .ref xa9, .ref xa10, .int 0, .int 0, .int 0, .int 5, .ref xa11, .ref xa12, .ref xa13, .ref xa14])), (xa54, .inl (kI, 3, .inl (fun _ => 0)))] sz) []) (va_A [(h0, .inr (10, [.ref xa1, .ref xa3, .ref xa15, .ref xa27, .ref xa28, .ref xa33, .ref xa38, .ref xa41, .ref xa45, .ref xa46, .ref xa47, .ref xa52, .ref xa54, .int 0, .ref xa55, .ref xa60, .ref xa62, .ref xa67, .int (-1)])), (xa3, .inr (2, [.ref xa4, .ref xa5, .ref xa6, .ref xa7, .ref xa8, .ref xa9, .ref xa10, .int 0, .int 0, .int 0, .int 5, .ref xa11, .ref xa12, .ref xa13, .ref xa14])), (xa54, .inl (kI, 3, .inl (fun _ => 0)))] sz)) 0 0 (va_A [(h0, .inr (10, [.ref xa1, .ref xa3, .ref xa15, .ref xa27, .ref xa28, .ref xa33, .ref xa38, .ref xa41, .ref xa45, .ref xa46, .ref xa47, .ref xa52, .ref xa54, .int 0, .ref xa55, .ref xa60, .ref xa62, .ref xa67, .int (-1)])), (xa3, .inr (2, [.ref xa4, .ref xa5, .ref xa6, .ref xa7, .ref xa8, .ref xa9, .ref xa10, .int 0, .int 0, .int 0, .int 5, .ref xa11, .ref xa12, .ref xa13, .ref xa14])), (xa54, .inl (kI, 3, .inl (fun _ => 0)))] sz) := by
  refine Met.ofW (cc := cX10_sweep) (maxL := 3) (ret := (some .int)) (by decide) rfl ?_
  intro p e s m args0 below meth c s₁ B hml hv
  obtain ⟨hargs, hsz, hP, hE, hD0⟩ := hv
  have hx := B.exec
  have hb := B.bytes
  have hr := B.returns
  have hts := atoms_spec (ws := wsX10_sweep) B.pre
  have hown : s.vm.findClass RX10 = some m.cls := findClass_of_methodNamed B.named
  have hlocks := B.notSynchronized
  have hK := hE.1
  have hin10 : ∀ w ∈ wsX100, w ∈ wsX10_sweep := fun _ h9 => List.mem_cons_of_mem _ (List.mem_append_left _ (List.mem_append_left _ (List.mem_append_left _ (List.mem_append_left _ (List.mem_append_left _ (List.mem_append_left _ (List.mem_append_right _ h9)))))))
  have hin2 : ∀ w ∈ wsX20, w ∈ wsX10_sweep := fun _ h9 => List.mem_cons_of_mem _ (List.mem_append_left _ (List.mem_append_left _ (List.mem_append_left _ (List.mem_append_left _ (List.mem_append_left _ (List.mem_append_right _ h9))))))
  have hin1 : ∀ w ∈ wsX10, w ∈ wsX10_sweep := fun _ h9 => List.mem_cons_of_mem _ (List.mem_append_left _ (List.mem_append_left _ (List.mem_append_left _ (List.mem_append_left _ (List.mem_append_right _ h9)))))
  have hin0 : ∀ w ∈ wsX00, w ∈ wsX10_sweep := fun _ h9 => List.mem_cons_of_mem _ (List.mem_append_left _ (List.mem_append_left _ (List.mem_append_left _ (List.mem_append_right _ h9))))
  have hin6 : ∀ w ∈ wsX60, w ∈ wsX10_sweep := fun _ h9 => List.mem_cons_of_mem _ (List.mem_append_left _ (List.mem_append_left _ (List.mem_append_right _ h9)))
  have hin4 : ∀ w ∈ wsX40, w ∈ wsX10_sweep := fun _ h9 => List.mem_cons_of_mem _ (List.mem_append_left _ (List.mem_append_right _ h9))
  have hin9 : ∀ w ∈ wsX90, w ∈ wsX10_sweep := fun _ h9 => List.mem_cons_of_mem _ (List.mem_append_right _ h9)
  subst hsz
  have hD := hD0.self (sz := s.heap.size)
  generalize hAe : va_A [(h0, .inr (10, [.ref xa1, .ref xa3, .ref xa15, .ref xa27, .ref xa28, .ref xa33, .ref xa38, .ref xa41, .ref xa45, .ref xa46, .ref xa47, .ref xa52, .ref xa54, .int 0, .ref xa55, .ref xa60, .ref xa62, .ref xa67, .int (-1)])), (xa3, .inr (2, [.ref xa4, .ref xa5, .ref xa6, .ref xa7, .ref xa8, .ref xa9, .ref xa10, .int 0, .int 0, .int 0, .int 5, .ref xa11, .ref xa12, .ref xa13, .ref xa14])), (xa54, .inl (kI, 3, .inl (fun _ => 0)))] s.heap.size = A at hD ⊢
  have hA : ∀ q : Nat, s.heap.size ≤ q → A q := fun q h => by rw [← hAe]; exact Or.inr h
  have hS : va_S A s.heap s.heap [] := va_S.rf
  have hP : va_P (dC, dI) vwCl [(h0, .inr (10, [.ref xa1, .ref xa3, .ref xa15, .ref xa27, .ref xa28, .ref xa33, .ref xa38, .ref xa41, .ref xa45, .ref xa46, .ref xa47, .ref xa52, .ref xa54, .int 0, .ref xa55, .ref xa60, .ref xa62, .ref xa67, .int (-1)])), (xa3, .inr (2, [.ref xa4, .ref xa5, .ref xa6, .ref xa7, .ref xa8, .ref xa9, .ref xa10, .int 0, .int 0, .int 0, .int 5, .ref xa11, .ref xa12, .ref xa13, .ref xa14])), (xa54, .inl (kI, 3, .inl (fun _ => 0)))] s.heap := hP
  have hl := lv_entry ([.ref h0, .int p0, .int p1]) (n := 3) (Nat.le_of_ble_eq_true rfl)
  have hla : entryFrame m args0 3 = entryFrame m ([.ref h0, .int p0, .int p1] : List Value).toArray 3 := by rw [hargs]
  rw [hla, lg_entry_eq]
  generalize (lg_sl ([.ref h0, .int p0, .int p1]) ++ List.replicate (3 - (lg_sl ([.ref h0, .int p0, .int p1])).length) Slot.unset).toArray = ls at hl ⊢
  have hl : lv_has ls 3 [(0, .ref h0), (1, .int p0), (2, .int p1)] := hl
  refine lv_aload_n hx hb dX10_sweep_0 rfl (lv_at hl 0 rfl) ?_
  refine va_get (D := (dC, dI)) (ci := 10) (v := .ref xa3) (C := RX10) (T := TX10) (N := 19) hx hb hts hin10 hown hK hP 0 rfl rfl 1 (by decide) (hts (.fieldLink RX10 19 "PathProber" "told" "LPathProber$Net;") (List.mem_of_getElem? (i := 1) (by decide +kernel))) (fun _ h9 => h9) rfl dX10_sweep_1 ?_
  refine lv_iload_n hx hb dX10_sweep_4 rfl (lv_at hl 1 rfl) ?_
  have hPc := hP.sub (ws' := [(xa3, .inr (2, [.ref xa4, .ref xa5, .ref xa6, .ref xa7, .ref xa8, .ref xa9, .ref xa10, .int 0, .int 0, .int 0, .int 5, .ref xa11, .ref xa12, .ref xa13, .ref xa14]))]) [1] rfl
  have hDc := hD.sub (ws' := [(xa3, .inr (2, [.ref xa4, .ref xa5, .ref xa6, .ref xa7, .ref xa8, .ref xa9, .ref xa10, .int 0, .int 0, .int 0, .int 5, .ref xa11, .ref xa12, .ref xa13, .ref xa14]))]) [1] (by decide) rfl
  have hFc := va_free (wc := [(xa3, .inr (2, [.ref xa4, .ref xa5, .ref xa6, .ref xa7, .ref xa8, .ref xa9, .ref xa10, .int 0, .int 0, .int 0, .int 5, .ref xa11, .ref xa12, .ref xa13, .ref xa14]))]) hD hS hA [1] rfl
  refine va_calli (va_runV (As := [.int p0]) (rest := []) ⟨hx, hb, hml, hown, hts⟩ (k2_hasGoal l dC dI kB kI kJ kZ kC kS s.heap.size xa3 xa4 xa5 xa6 xa7 xa8 xa9 xa10 xa11 xa12 xa13 xa14 p0) (cwV 1 hts gX10_sweep_X2_hasGoal rfl rfl rfl (by decide +kernel) ⟨Nat.le_of_ble_eq_true rfl, Nat.le_of_ble_eq_true rfl⟩) ⟨fun a U g mk q => by obtain ⟨q0, q1, qP, qE, qD⟩ := q; exact ⟨q0, q1, qP, kE_call qE, qD⟩, va_recv hK hP (ci := 2) (q0 := 1) rfl rfl, fun U hU hW => ⟨rfl, by rw [hU], by rw [hU]; exact hPc, kE_warm hW hE, hDc.weaken (fun _ _ _ _ => trivial)⟩⟩ rfl rfl hl.1 rfl (lv_room (Nat.le_of_ble_eq_true rfl)) dX10_sweep_5 ⟨Nat.le_of_ble_eq_true rfl, Nat.le_of_ble_eq_true rfl⟩) hS (fun q _ h => hFc q h) hFc (fun r1 u t H1 locs ht hvm w2 hB hz1 hk1 hS => ?_)
  obtain ⟨hP1, hD1⟩ := hB
  rw [ht] at hP1
  try dsimp only at w2
  obtain ⟨hP, hD⟩ := va_join (wr := [(h0, .inr (10, [.ref xa1, .ref xa3, .ref xa15, .ref xa27, .ref xa28, .ref xa33, .ref xa38, .ref xa41, .ref xa45, .ref xa46, .ref xa47, .ref xa52, .ref xa54, .int 0, .ref xa55, .ref xa60, .ref xa62, .ref xa67, .int (-1)])), (xa54, .inl (kI, 3, .inl (fun _ => 0)))]) (w1 := [(xa3, .inr (2, [.ref xa4, .ref xa5, .ref xa6, .ref xa7, .ref xa8, .ref xa9, .ref xa10, .int 0, .int 0, .int 0, .int 5, .ref xa11, .ref xa12, .ref xa13, .ref xa14]))]) hP hD [1] [0, 2] rfl rfl (by decide) (by decide) hk1 hFc hP1 hD1
  generalize H1 = H at hP hS ⊢
  have hP : va_P (dC, dI) vwCl [(h0, .inr (10, [.ref xa1, .ref xa3, .ref xa15, .ref xa27, .ref xa28, .ref xa33, .ref xa38, .ref xa41, .ref xa45, .ref xa46, .ref xa47, .ref xa52, .ref xa54, .int 0, .ref xa55, .ref xa60, .ref xa62, .ref xa67, .int (-1)])), (xa54, .inl (kI, 3, .inl (fun _ => 0))), (xa3, .inr (2, [.ref xa4, .ref xa5, .ref xa6, .ref xa7, .ref xa8, .ref xa9, .ref xa10, .int 0, .int 0, .int 0, .int 5, .ref xa11, .ref xa12, .ref xa13, .ref xa14]))] H := hP
  have hD : va_D A [(h0, .inr (10, [.ref xa1, .ref xa3, .ref xa15, .ref xa27, .ref xa28, .ref xa33, .ref xa38, .ref xa41, .ref xa45, .ref xa46, .ref xa47, .ref xa52, .ref xa54, .int 0, .ref xa55, .ref xa60, .ref xa62, .ref xa67, .int (-1)])), (xa54, .inl (kI, 3, .inl (fun _ => 0))), (xa3, .inr (2, [.ref xa4, .ref xa5, .ref xa6, .ref xa7, .ref xa8, .ref xa9, .ref xa10, .int 0, .int 0, .int 0, .int 5, .ref xa11, .ref xa12, .ref xa13, .ref xa14]))] := hD
  refine W.widen (k := 0) (n := 0) (Nat.le_of_ble_eq_true rfl) (Nat.le_of_ble_eq_true rfl) ?_
  subst w2
  refine lv_if_eq (tgt := 18) hx hb dX10_sweep_8 (by decide) (fun _ => ?_) (fun c9 => absurd (by decide) c9)
  refine lv_aload_n hx hb dX10_sweep_18 rfl (lv_at hl 0 rfl) ?_
  have hPc := hP.sub (ws' := [(h0, .inr (10, [.ref xa1, .ref xa3, .ref xa15, .ref xa27, .ref xa28, .ref xa33, .ref xa38, .ref xa41, .ref xa45, .ref xa46, .ref xa47, .ref xa52, .ref xa54, .int 0, .ref xa55, .ref xa60, .ref xa62, .ref xa67, .int (-1)])), (xa54, .inl (kI, 3, .inl (fun _ => 0)))]) [0, 1] rfl
  have hDc := hD.sub (ws' := [(h0, .inr (10, [.ref xa1, .ref xa3, .ref xa15, .ref xa27, .ref xa28, .ref xa33, .ref xa38, .ref xa41, .ref xa45, .ref xa46, .ref xa47, .ref xa52, .ref xa54, .int 0, .ref xa55, .ref xa60, .ref xa62, .ref xa67, .int (-1)])), (xa54, .inl (kI, 3, .inl (fun _ => 0)))]) [0, 1] (by decide) rfl
  have hFc := va_free (wc := [(h0, .inr (10, [.ref xa1, .ref xa3, .ref xa15, .ref xa27, .ref xa28, .ref xa33, .ref xa38, .ref xa41, .ref xa45, .ref xa46, .ref xa47, .ref xa52, .ref xa54, .int 0, .ref xa55, .ref xa60, .ref xa62, .ref xa67, .int (-1)])), (xa54, .inl (kI, 3, .inl (fun _ => 0)))]) hD hS hA [0, 1] rfl
  refine va_calli (va_runV (As := []) (rest := []) ⟨hx, hb, hml, hown, hts⟩ (k10_refuseAct l dC dI kB kI kJ kZ kC kS H.size h0 xa1 xa3 xa15 xa27 xa28 xa33 xa38 xa41 xa45 xa46 xa47 xa52 xa54 xa55 xa60 xa62 xa67) (cwV 0 hts gX10_sweep_X10_refuseAct rfl rfl rfl (by decide +kernel) ⟨Nat.le_of_ble_eq_true rfl, Nat.le_of_ble_eq_true rfl⟩) ⟨fun a U g mk q => by obtain ⟨q0, q1, qP, qE, qD⟩ := q; exact ⟨q0, q1, qP, kE_call qE, qD⟩, va_recv hK hP (ci := 10) (q0 := 0) rfl rfl, fun U hU hW => ⟨rfl, by rw [hU], by rw [hU]; exact hPc, kE_warm hW hE, hDc.weaken (fun _ _ _ _ => trivial)⟩⟩ rfl rfl hl.1 rfl (lv_room (Nat.le_of_ble_eq_true rfl)) dX10_sweep_19 ⟨Nat.le_of_ble_eq_true rfl, Nat.le_of_ble_eq_true rfl⟩) hS (fun q _ h => hFc q h) hFc (fun r3 u t H1 locs ht hvm w4 hB hz1 hk1 hS => ?_)
  obtain ⟨hP1, hD1⟩ := hB
  rw [ht] at hP1
  try dsimp only at w4
  obtain ⟨hP, hD⟩ := va_join (wr := [(xa3, .inr (2, [.ref xa4, .ref xa5, .ref xa6, .ref xa7, .ref xa8, .ref xa9, .ref xa10, .int 0, .int 0, .int 0, .int 5, .ref xa11, .ref xa12, .ref xa13, .ref xa14]))]) (w1 := []) hP hD [0, 1] [2] rfl rfl (by decide) (by decide) hk1 hFc hP1 hD1
  generalize H1 = H at hP hS ⊢
  have hP : va_P (dC, dI) vwCl [(xa3, .inr (2, [.ref xa4, .ref xa5, .ref xa6, .ref xa7, .ref xa8, .ref xa9, .ref xa10, .int 0, .int 0, .int 0, .int 5, .ref xa11, .ref xa12, .ref xa13, .ref xa14]))] H := hP
  have hD : va_D A [(xa3, .inr (2, [.ref xa4, .ref xa5, .ref xa6, .ref xa7, .ref xa8, .ref xa9, .ref xa10, .int 0, .int 0, .int 0, .int 5, .ref xa11, .ref xa12, .ref xa13, .ref xa14]))] := hD
  refine W.widen (k := 0) (n := 0) (Nat.le_of_ble_eq_true rfl) (Nat.le_of_ble_eq_true rfl) ?_
  subst w4
  have hP9 := hP.sub (ws' := []) [] rfl
  have hD9 := hD.sub (ws' := []) [] (by decide) rfl
  exact W.iret (v := (-1)) hx hb hr (fun t ht hW => ⟨⟨(-1), (), rfl, rfl, by rw [ht]; exact hP9, hD9⟩, hS.F ht⟩) hS.2.2 dX10_sweep_22
def rm_k10_trace : Room := { frames := 1, cells := 0, slots := 0, locals := 21 }
set_option maxHeartbeats 4000000 in
set_option maxRecDepth 100000 in
theorem k10_trace (l : Launch) (dC : Nat → ClassId) (dI : Nat → Nat → Nat) (kB kI kJ kZ kC kS : ClassId) (sz : Nat) (h0 : Nat) (xa1 : Nat) (xa3 : Nat) (xa15 : Nat) (xa27 : Nat) (xa28 : Nat) (xa33 : Nat) (xa38 : Nat) (xa41 : Nat) (xa45 : Nat) (xa46 : Nat) (xa47 : Nat) (xa52 : Nat) (xa54 : Nat) (xa55 : Nat) (xa60 : Nat) (xa62 : Nat) (xa67 : Nat) (xa4 : Nat) (xa5 : Nat) (xa6 : Nat) (xa7 : Nat) (xa8 : Nat) (xa9 : Nat) (xa10 : Nat) (xa11 : Nat) (xa12 : Nat) (xa13 : Nat) (xa14 : Nat) (p0 : Int32) (p1 : Int32) : Met l yX10_trace wsX10_trace rm_k10_trace (va_Pc [.ref h0, .int p0, .int p1] (fun U => U.heap.size = sz ∧ va_P (dC, dI) vwCl [(h0, .inr (10, [.ref xa1, .ref xa3, .ref xa15, .ref xa27, .ref xa28, .ref xa33, .ref xa38, .ref xa41, .ref xa45, .ref xa46, .ref xa47, .ref xa52, .ref xa54, .int 0, .ref xa55, .ref xa60, .ref xa62, .ref xa67, .int (-1)])), (xa3, .inr (2, [.ref xa4, .ref xa5, .ref xa6, .ref xa7, .ref xa8, .ref xa9, .ref xa10, .int 0, .int 0, .int 0, .int 5, .ref xa11, .ref xa12, .ref xa13, .ref xa14])), (xa54, .inl (kI, 3, .inl (fun _ => 0)))] U.heap ∧ kE dC dI kB kI kJ kZ kC kS U ∧ va_D (fun _ => True) [(h0, .inr (10, [.ref xa1, .ref xa3, .ref xa15, .ref xa27, .ref xa28, .ref xa33, .ref xa38, .ref xa41, .ref xa45, .ref xa46, .ref xa47, .ref xa52, .ref xa54, .int 0, .ref xa55, .ref xa60, .ref xa62, .ref xa67, .int (-1)])), (xa3, .inr (2, [.ref xa4, .ref xa5, .ref xa6, .ref xa7, .ref xa8, .ref xa9, .ref xa10, .int 0, .int 0, .int 0, .int 5, .ref xa11, .ref xa12, .ref xa13, .ref xa14])), (xa54, .inl (kI, 3, .inl (fun _ => 0)))])) (va_Qi (fun (r : Int32) (_ : Unit) => r = -1) (fun _ t => va_P (dC, dI) vwCl [] t.heap ∧ va_D (va_A [(h0, .inr (10, [.ref xa1, .ref xa3, .ref xa15, .ref xa27, .ref xa28, .ref xa33, .ref xa38, .ref xa41, .ref xa45, .ref xa46, .ref xa47, .ref xa52, .ref xa54, .int 0, .ref xa55, .ref xa60, .ref xa62, .ref xa67, .int (-1)])), (xa3, .inr (2, [.ref xa4, .ref xa5, .ref xa6, .ref xa7, .ref xa8, .ref xa9, .ref xa10, .int 0, .int 0, .int 0, .int 5, .ref xa11, .ref xa12, .ref xa13, .ref xa14])), (xa54, .inl (kI, 3, .inl (fun _ => 0)))] sz) []) (va_A [(h0, .inr (10, [.ref xa1, .ref xa3, .ref xa15, .ref xa27, .ref xa28, .ref xa33, .ref xa38, .ref xa41, .ref xa45, .ref xa46, .ref xa47, .ref xa52, .ref xa54, .int 0, .ref xa55, .ref xa60, .ref xa62, .ref xa67, .int (-1)])), (xa3, .inr (2, [.ref xa4, .ref xa5, .ref xa6, .ref xa7, .ref xa8, .ref xa9, .ref xa10, .int 0, .int 0, .int 0, .int 5, .ref xa11, .ref xa12, .ref xa13, .ref xa14])), (xa54, .inl (kI, 3, .inl (fun _ => 0)))] sz)) 0 0 (va_A [(h0, .inr (10, [.ref xa1, .ref xa3, .ref xa15, .ref xa27, .ref xa28, .ref xa33, .ref xa38, .ref xa41, .ref xa45, .ref xa46, .ref xa47, .ref xa52, .ref xa54, .int 0, .ref xa55, .ref xa60, .ref xa62, .ref xa67, .int (-1)])), (xa3, .inr (2, [.ref xa4, .ref xa5, .ref xa6, .ref xa7, .ref xa8, .ref xa9, .ref xa10, .int 0, .int 0, .int 0, .int 5, .ref xa11, .ref xa12, .ref xa13, .ref xa14])), (xa54, .inl (kI, 3, .inl (fun _ => 0)))] sz) := by
  refine Met.ofW (cc := cX10_trace) (maxL := 3) (ret := (some .int)) (by decide) rfl ?_
  intro p e s m args0 below meth c s₁ B hml hv
  obtain ⟨hargs, hsz, hP, hE, hD0⟩ := hv
  have hx := B.exec
  have hb := B.bytes
  have hr := B.returns
  have hts := atoms_spec (ws := wsX10_trace) B.pre
  have hown : s.vm.findClass RX10 = some m.cls := findClass_of_methodNamed B.named
  have hlocks := B.notSynchronized
  have hK := hE.1
  have hin10 : ∀ w ∈ wsX100, w ∈ wsX10_trace := fun _ h9 => List.mem_cons_of_mem _ (List.mem_append_left _ (List.mem_append_left _ (List.mem_append_left _ (List.mem_append_left _ (List.mem_append_left _ (List.mem_append_right _ h9))))))
  have hin2 : ∀ w ∈ wsX20, w ∈ wsX10_trace := fun _ h9 => List.mem_cons_of_mem _ (List.mem_append_left _ (List.mem_append_left _ (List.mem_append_left _ (List.mem_append_left _ (List.mem_append_right _ h9)))))
  have hin1 : ∀ w ∈ wsX10, w ∈ wsX10_trace := fun _ h9 => List.mem_cons_of_mem _ (List.mem_append_left _ (List.mem_append_left _ (List.mem_append_left _ (List.mem_append_right _ h9))))
  have hin0 : ∀ w ∈ wsX00, w ∈ wsX10_trace := fun _ h9 => List.mem_cons_of_mem _ (List.mem_append_left _ (List.mem_append_left _ (List.mem_append_right _ h9)))
  have hin6 : ∀ w ∈ wsX60, w ∈ wsX10_trace := fun _ h9 => List.mem_cons_of_mem _ (List.mem_append_left _ (List.mem_append_right _ h9))
  have hin9 : ∀ w ∈ wsX90, w ∈ wsX10_trace := fun _ h9 => List.mem_cons_of_mem _ (List.mem_append_right _ h9)
  subst hsz
  have hD := hD0.self (sz := s.heap.size)
  generalize hAe : va_A [(h0, .inr (10, [.ref xa1, .ref xa3, .ref xa15, .ref xa27, .ref xa28, .ref xa33, .ref xa38, .ref xa41, .ref xa45, .ref xa46, .ref xa47, .ref xa52, .ref xa54, .int 0, .ref xa55, .ref xa60, .ref xa62, .ref xa67, .int (-1)])), (xa3, .inr (2, [.ref xa4, .ref xa5, .ref xa6, .ref xa7, .ref xa8, .ref xa9, .ref xa10, .int 0, .int 0, .int 0, .int 5, .ref xa11, .ref xa12, .ref xa13, .ref xa14])), (xa54, .inl (kI, 3, .inl (fun _ => 0)))] s.heap.size = A at hD ⊢
  have hA : ∀ q : Nat, s.heap.size ≤ q → A q := fun q h => by rw [← hAe]; exact Or.inr h
  have hS : va_S A s.heap s.heap [] := va_S.rf
  have hP : va_P (dC, dI) vwCl [(h0, .inr (10, [.ref xa1, .ref xa3, .ref xa15, .ref xa27, .ref xa28, .ref xa33, .ref xa38, .ref xa41, .ref xa45, .ref xa46, .ref xa47, .ref xa52, .ref xa54, .int 0, .ref xa55, .ref xa60, .ref xa62, .ref xa67, .int (-1)])), (xa3, .inr (2, [.ref xa4, .ref xa5, .ref xa6, .ref xa7, .ref xa8, .ref xa9, .ref xa10, .int 0, .int 0, .int 0, .int 5, .ref xa11, .ref xa12, .ref xa13, .ref xa14])), (xa54, .inl (kI, 3, .inl (fun _ => 0)))] s.heap := hP
  have hl := lv_entry ([.ref h0, .int p0, .int p1]) (n := 3) (Nat.le_of_ble_eq_true rfl)
  have hla : entryFrame m args0 3 = entryFrame m ([.ref h0, .int p0, .int p1] : List Value).toArray 3 := by rw [hargs]
  rw [hla, lg_entry_eq]
  generalize (lg_sl ([.ref h0, .int p0, .int p1]) ++ List.replicate (3 - (lg_sl ([.ref h0, .int p0, .int p1])).length) Slot.unset).toArray = ls at hl ⊢
  have hl : lv_has ls 3 [(0, .ref h0), (1, .int p0), (2, .int p1)] := hl
  refine lv_iload_n hx hb dX10_trace_0 rfl (lv_at hl 1 rfl) ?_
  have hPc := hP.sub (ws' := []) [] rfl
  have hDc := hD.sub (ws' := []) [] (by decide) rfl
  have hFc := va_free (wc := []) hD hS hA [] rfl
  refine va_calli (va_runS (As := [.int p0]) (rest := []) ⟨hx, hb, hml, hown, hts⟩ (k10_isPort l dC dI kB kI kJ kZ kC kS s.heap.size p0) (va_cwS 1 hts gX10_trace_X10_isPort rfl rfl rfl (by decide +kernel) ⟨Nat.le_of_ble_eq_true rfl, Nat.le_of_ble_eq_true rfl⟩) ⟨fun a U g mk q => by obtain ⟨q0, q1, qP, qE, qD⟩ := q; exact ⟨q0, q1, qP, kE_call qE, qD⟩, fun U hU hW => ⟨rfl, by rw [hU], by rw [hU]; exact hPc, kE_warm hW hE, hDc.weaken (fun _ _ _ _ => trivial)⟩⟩ rfl rfl hl.1 rfl (lv_room (Nat.le_of_ble_eq_true rfl)) dX10_trace_1 ⟨Nat.le_of_ble_eq_true rfl, Nat.le_of_ble_eq_true rfl⟩) hS (fun q _ h => hFc q h) hFc (fun r1 u t H1 locs ht hvm w2 hB hz1 hk1 hS => ?_)
  obtain ⟨hP1, hD1⟩ := hB
  rw [ht] at hP1
  try dsimp only at w2
  obtain ⟨hP, hD⟩ := va_join (wr := [(h0, .inr (10, [.ref xa1, .ref xa3, .ref xa15, .ref xa27, .ref xa28, .ref xa33, .ref xa38, .ref xa41, .ref xa45, .ref xa46, .ref xa47, .ref xa52, .ref xa54, .int 0, .ref xa55, .ref xa60, .ref xa62, .ref xa67, .int (-1)])), (xa3, .inr (2, [.ref xa4, .ref xa5, .ref xa6, .ref xa7, .ref xa8, .ref xa9, .ref xa10, .int 0, .int 0, .int 0, .int 5, .ref xa11, .ref xa12, .ref xa13, .ref xa14])), (xa54, .inl (kI, 3, .inl (fun _ => 0)))]) (w1 := []) hP hD [] [0, 1, 2] rfl rfl (by decide) (by decide) hk1 hFc hP1 hD1
  generalize H1 = H at hP hS ⊢
  have hP : va_P (dC, dI) vwCl [(h0, .inr (10, [.ref xa1, .ref xa3, .ref xa15, .ref xa27, .ref xa28, .ref xa33, .ref xa38, .ref xa41, .ref xa45, .ref xa46, .ref xa47, .ref xa52, .ref xa54, .int 0, .ref xa55, .ref xa60, .ref xa62, .ref xa67, .int (-1)])), (xa3, .inr (2, [.ref xa4, .ref xa5, .ref xa6, .ref xa7, .ref xa8, .ref xa9, .ref xa10, .int 0, .int 0, .int 0, .int 5, .ref xa11, .ref xa12, .ref xa13, .ref xa14])), (xa54, .inl (kI, 3, .inl (fun _ => 0)))] H := hP
  have hD : va_D A [(h0, .inr (10, [.ref xa1, .ref xa3, .ref xa15, .ref xa27, .ref xa28, .ref xa33, .ref xa38, .ref xa41, .ref xa45, .ref xa46, .ref xa47, .ref xa52, .ref xa54, .int 0, .ref xa55, .ref xa60, .ref xa62, .ref xa67, .int (-1)])), (xa3, .inr (2, [.ref xa4, .ref xa5, .ref xa6, .ref xa7, .ref xa8, .ref xa9, .ref xa10, .int 0, .int 0, .int 0, .int 5, .ref xa11, .ref xa12, .ref xa13, .ref xa14])), (xa54, .inl (kI, 3, .inl (fun _ => 0)))] := hD
  refine W.widen (k := 0) (n := 0) (Nat.le_of_ble_eq_true rfl) (Nat.le_of_ble_eq_true rfl) ?_
  refine lv_if_eq (tgt := 18) hx hb dX10_trace_4 (by decide) (fun c3 => ?_) (fun c3 => ?_)
  · refine lv_aload_n hx hb dX10_trace_18 rfl (lv_at hl 0 rfl) ?_
    have hPc := hP.sub (ws' := [(h0, .inr (10, [.ref xa1, .ref xa3, .ref xa15, .ref xa27, .ref xa28, .ref xa33, .ref xa38, .ref xa41, .ref xa45, .ref xa46, .ref xa47, .ref xa52, .ref xa54, .int 0, .ref xa55, .ref xa60, .ref xa62, .ref xa67, .int (-1)])), (xa54, .inl (kI, 3, .inl (fun _ => 0)))]) [0, 2] rfl
    have hDc := hD.sub (ws' := [(h0, .inr (10, [.ref xa1, .ref xa3, .ref xa15, .ref xa27, .ref xa28, .ref xa33, .ref xa38, .ref xa41, .ref xa45, .ref xa46, .ref xa47, .ref xa52, .ref xa54, .int 0, .ref xa55, .ref xa60, .ref xa62, .ref xa67, .int (-1)])), (xa54, .inl (kI, 3, .inl (fun _ => 0)))]) [0, 2] (by decide) rfl
    have hFc := va_free (wc := [(h0, .inr (10, [.ref xa1, .ref xa3, .ref xa15, .ref xa27, .ref xa28, .ref xa33, .ref xa38, .ref xa41, .ref xa45, .ref xa46, .ref xa47, .ref xa52, .ref xa54, .int 0, .ref xa55, .ref xa60, .ref xa62, .ref xa67, .int (-1)])), (xa54, .inl (kI, 3, .inl (fun _ => 0)))]) hD hS hA [0, 2] rfl
    refine va_calli (va_runV (As := []) (rest := []) ⟨hx, hb, hml, hown, hts⟩ (k10_refuseAct l dC dI kB kI kJ kZ kC kS H.size h0 xa1 xa3 xa15 xa27 xa28 xa33 xa38 xa41 xa45 xa46 xa47 xa52 xa54 xa55 xa60 xa62 xa67) (cwV 0 hts gX10_trace_X10_refuseAct rfl rfl rfl (by decide +kernel) ⟨Nat.le_of_ble_eq_true rfl, Nat.le_of_ble_eq_true rfl⟩) ⟨fun a U g mk q => by obtain ⟨q0, q1, qP, qE, qD⟩ := q; exact ⟨q0, q1, qP, kE_call qE, qD⟩, va_recv hK hP (ci := 10) (q0 := 0) rfl rfl, fun U hU hW => ⟨rfl, by rw [hU], by rw [hU]; exact hPc, kE_warm hW hE, hDc.weaken (fun _ _ _ _ => trivial)⟩⟩ rfl rfl hl.1 rfl (lv_room (Nat.le_of_ble_eq_true rfl)) dX10_trace_19 ⟨Nat.le_of_ble_eq_true rfl, Nat.le_of_ble_eq_true rfl⟩) hS (fun q _ h => hFc q h) hFc (fun r4 u t H1 locs ht hvm w5 hB hz1 hk1 hS => ?_)
    obtain ⟨hP1, hD1⟩ := hB
    rw [ht] at hP1
    try dsimp only at w5
    obtain ⟨hP, hD⟩ := va_join (wr := [(xa3, .inr (2, [.ref xa4, .ref xa5, .ref xa6, .ref xa7, .ref xa8, .ref xa9, .ref xa10, .int 0, .int 0, .int 0, .int 5, .ref xa11, .ref xa12, .ref xa13, .ref xa14]))]) (w1 := []) hP hD [0, 2] [1] rfl rfl (by decide) (by decide) hk1 hFc hP1 hD1
    generalize H1 = H at hP hS ⊢
    have hP : va_P (dC, dI) vwCl [(xa3, .inr (2, [.ref xa4, .ref xa5, .ref xa6, .ref xa7, .ref xa8, .ref xa9, .ref xa10, .int 0, .int 0, .int 0, .int 5, .ref xa11, .ref xa12, .ref xa13, .ref xa14]))] H := hP
    have hD : va_D A [(xa3, .inr (2, [.ref xa4, .ref xa5, .ref xa6, .ref xa7, .ref xa8, .ref xa9, .ref xa10, .int 0, .int 0, .int 0, .int 5, .ref xa11, .ref xa12, .ref xa13, .ref xa14]))] := hD
    refine W.widen (k := 0) (n := 0) (Nat.le_of_ble_eq_true rfl) (Nat.le_of_ble_eq_true rfl) ?_
    subst w5
    have hP9 := hP.sub (ws' := []) [] rfl
    have hD9 := hD.sub (ws' := []) [] (by decide) rfl
    exact W.iret (v := (-1)) hx hb hr (fun t ht hW => ⟨⟨(-1), (), rfl, rfl, by rw [ht]; exact hP9, hD9⟩, hS.F ht⟩) hS.2.2 dX10_trace_22
  · refine lv_aload_n hx hb dX10_trace_7 rfl (lv_at hl 0 rfl) ?_
    refine va_get (D := (dC, dI)) (ci := 10) (v := .ref xa3) (C := RX10) (T := TX10) (N := 19) hx hb hts hin10 hown hK hP 0 rfl rfl 1 (by decide) (hts (.fieldLink RX10 19 "PathProber" "told" "LPathProber$Net;") (List.mem_of_getElem? (i := 1) (by decide +kernel))) (fun _ h9 => h9) rfl dX10_trace_8 ?_
    refine lv_iload_n hx hb dX10_trace_11 rfl (lv_at hl 2 rfl) ?_
    have hPc := hP.sub (ws' := [(xa3, .inr (2, [.ref xa4, .ref xa5, .ref xa6, .ref xa7, .ref xa8, .ref xa9, .ref xa10, .int 0, .int 0, .int 0, .int 5, .ref xa11, .ref xa12, .ref xa13, .ref xa14]))]) [1] rfl
    have hDc := hD.sub (ws' := [(xa3, .inr (2, [.ref xa4, .ref xa5, .ref xa6, .ref xa7, .ref xa8, .ref xa9, .ref xa10, .int 0, .int 0, .int 0, .int 5, .ref xa11, .ref xa12, .ref xa13, .ref xa14]))]) [1] (by decide) rfl
    have hFc := va_free (wc := [(xa3, .inr (2, [.ref xa4, .ref xa5, .ref xa6, .ref xa7, .ref xa8, .ref xa9, .ref xa10, .int 0, .int 0, .int 0, .int 5, .ref xa11, .ref xa12, .ref xa13, .ref xa14]))]) hD hS hA [1] rfl
    refine va_calli (va_runV (As := [.int p1]) (rest := []) ⟨hx, hb, hml, hown, hts⟩ (k2_hasGoal l dC dI kB kI kJ kZ kC kS H.size xa3 xa4 xa5 xa6 xa7 xa8 xa9 xa10 xa11 xa12 xa13 xa14 p1) (cwV 1 hts gX10_trace_X2_hasGoal rfl rfl rfl (by decide +kernel) ⟨Nat.le_of_ble_eq_true rfl, Nat.le_of_ble_eq_true rfl⟩) ⟨fun a U g mk q => by obtain ⟨q0, q1, qP, qE, qD⟩ := q; exact ⟨q0, q1, qP, kE_call qE, qD⟩, va_recv hK hP (ci := 2) (q0 := 1) rfl rfl, fun U hU hW => ⟨rfl, by rw [hU], by rw [hU]; exact hPc, kE_warm hW hE, hDc.weaken (fun _ _ _ _ => trivial)⟩⟩ rfl rfl hl.1 rfl (lv_room (Nat.le_of_ble_eq_true rfl)) dX10_trace_12 ⟨Nat.le_of_ble_eq_true rfl, Nat.le_of_ble_eq_true rfl⟩) hS (fun q _ h => hFc q h) hFc (fun r6 u t H1 locs ht hvm w7 hB hz1 hk1 hS => ?_)
    obtain ⟨hP1, hD1⟩ := hB
    rw [ht] at hP1
    try dsimp only at w7
    obtain ⟨hP, hD⟩ := va_join (wr := [(h0, .inr (10, [.ref xa1, .ref xa3, .ref xa15, .ref xa27, .ref xa28, .ref xa33, .ref xa38, .ref xa41, .ref xa45, .ref xa46, .ref xa47, .ref xa52, .ref xa54, .int 0, .ref xa55, .ref xa60, .ref xa62, .ref xa67, .int (-1)])), (xa54, .inl (kI, 3, .inl (fun _ => 0)))]) (w1 := [(xa3, .inr (2, [.ref xa4, .ref xa5, .ref xa6, .ref xa7, .ref xa8, .ref xa9, .ref xa10, .int 0, .int 0, .int 0, .int 5, .ref xa11, .ref xa12, .ref xa13, .ref xa14]))]) hP hD [1] [0, 2] rfl rfl (by decide) (by decide) hk1 hFc hP1 hD1
    generalize H1 = H at hP hS ⊢
    have hP : va_P (dC, dI) vwCl [(h0, .inr (10, [.ref xa1, .ref xa3, .ref xa15, .ref xa27, .ref xa28, .ref xa33, .ref xa38, .ref xa41, .ref xa45, .ref xa46, .ref xa47, .ref xa52, .ref xa54, .int 0, .ref xa55, .ref xa60, .ref xa62, .ref xa67, .int (-1)])), (xa54, .inl (kI, 3, .inl (fun _ => 0))), (xa3, .inr (2, [.ref xa4, .ref xa5, .ref xa6, .ref xa7, .ref xa8, .ref xa9, .ref xa10, .int 0, .int 0, .int 0, .int 5, .ref xa11, .ref xa12, .ref xa13, .ref xa14]))] H := hP
    have hD : va_D A [(h0, .inr (10, [.ref xa1, .ref xa3, .ref xa15, .ref xa27, .ref xa28, .ref xa33, .ref xa38, .ref xa41, .ref xa45, .ref xa46, .ref xa47, .ref xa52, .ref xa54, .int 0, .ref xa55, .ref xa60, .ref xa62, .ref xa67, .int (-1)])), (xa54, .inl (kI, 3, .inl (fun _ => 0))), (xa3, .inr (2, [.ref xa4, .ref xa5, .ref xa6, .ref xa7, .ref xa8, .ref xa9, .ref xa10, .int 0, .int 0, .int 0, .int 5, .ref xa11, .ref xa12, .ref xa13, .ref xa14]))] := hD
    refine W.widen (k := 0) (n := 0) (Nat.le_of_ble_eq_true rfl) (Nat.le_of_ble_eq_true rfl) ?_
    subst w7
    refine lv_if_ne (tgt := 23) hx hb dX10_trace_15 (by decide) (fun c9 => absurd (by decide) c9) (fun _ => ?_)
    refine lv_aload_n hx hb dX10_trace_18 rfl (lv_at hl 0 rfl) ?_
    have hPc := hP.sub (ws' := [(h0, .inr (10, [.ref xa1, .ref xa3, .ref xa15, .ref xa27, .ref xa28, .ref xa33, .ref xa38, .ref xa41, .ref xa45, .ref xa46, .ref xa47, .ref xa52, .ref xa54, .int 0, .ref xa55, .ref xa60, .ref xa62, .ref xa67, .int (-1)])), (xa54, .inl (kI, 3, .inl (fun _ => 0)))]) [0, 1] rfl
    have hDc := hD.sub (ws' := [(h0, .inr (10, [.ref xa1, .ref xa3, .ref xa15, .ref xa27, .ref xa28, .ref xa33, .ref xa38, .ref xa41, .ref xa45, .ref xa46, .ref xa47, .ref xa52, .ref xa54, .int 0, .ref xa55, .ref xa60, .ref xa62, .ref xa67, .int (-1)])), (xa54, .inl (kI, 3, .inl (fun _ => 0)))]) [0, 1] (by decide) rfl
    have hFc := va_free (wc := [(h0, .inr (10, [.ref xa1, .ref xa3, .ref xa15, .ref xa27, .ref xa28, .ref xa33, .ref xa38, .ref xa41, .ref xa45, .ref xa46, .ref xa47, .ref xa52, .ref xa54, .int 0, .ref xa55, .ref xa60, .ref xa62, .ref xa67, .int (-1)])), (xa54, .inl (kI, 3, .inl (fun _ => 0)))]) hD hS hA [0, 1] rfl
    refine va_calli (va_runV (As := []) (rest := []) ⟨hx, hb, hml, hown, hts⟩ (k10_refuseAct l dC dI kB kI kJ kZ kC kS H.size h0 xa1 xa3 xa15 xa27 xa28 xa33 xa38 xa41 xa45 xa46 xa47 xa52 xa54 xa55 xa60 xa62 xa67) (cwV 0 hts gX10_trace_X10_refuseAct rfl rfl rfl (by decide +kernel) ⟨Nat.le_of_ble_eq_true rfl, Nat.le_of_ble_eq_true rfl⟩) ⟨fun a U g mk q => by obtain ⟨q0, q1, qP, qE, qD⟩ := q; exact ⟨q0, q1, qP, kE_call qE, qD⟩, va_recv hK hP (ci := 10) (q0 := 0) rfl rfl, fun U hU hW => ⟨rfl, by rw [hU], by rw [hU]; exact hPc, kE_warm hW hE, hDc.weaken (fun _ _ _ _ => trivial)⟩⟩ rfl rfl hl.1 rfl (lv_room (Nat.le_of_ble_eq_true rfl)) dX10_trace_19 ⟨Nat.le_of_ble_eq_true rfl, Nat.le_of_ble_eq_true rfl⟩) hS (fun q _ h => hFc q h) hFc (fun r8 u t H1 locs ht hvm w9 hB hz1 hk1 hS => ?_)
    obtain ⟨hP1, hD1⟩ := hB
    rw [ht] at hP1
    try dsimp only at w9
    obtain ⟨hP, hD⟩ := va_join (wr := [(xa3, .inr (2, [.ref xa4, .ref xa5, .ref xa6, .ref xa7, .ref xa8, .ref xa9, .ref xa10, .int 0, .int 0, .int 0, .int 5, .ref xa11, .ref xa12, .ref xa13, .ref xa14]))]) (w1 := []) hP hD [0, 1] [2] rfl rfl (by decide) (by decide) hk1 hFc hP1 hD1
    generalize H1 = H at hP hS ⊢
    have hP : va_P (dC, dI) vwCl [(xa3, .inr (2, [.ref xa4, .ref xa5, .ref xa6, .ref xa7, .ref xa8, .ref xa9, .ref xa10, .int 0, .int 0, .int 0, .int 5, .ref xa11, .ref xa12, .ref xa13, .ref xa14]))] H := hP
    have hD : va_D A [(xa3, .inr (2, [.ref xa4, .ref xa5, .ref xa6, .ref xa7, .ref xa8, .ref xa9, .ref xa10, .int 0, .int 0, .int 0, .int 5, .ref xa11, .ref xa12, .ref xa13, .ref xa14]))] := hD
    refine W.widen (k := 0) (n := 0) (Nat.le_of_ble_eq_true rfl) (Nat.le_of_ble_eq_true rfl) ?_
    subst w9
    have hP9 := hP.sub (ws' := []) [] rfl
    have hD9 := hD.sub (ws' := []) [] (by decide) rfl
    exact W.iret (v := (-1)) hx hb hr (fun t ht hW => ⟨⟨(-1), (), rfl, rfl, by rw [ht]; exact hP9, hD9⟩, hS.F ht⟩) hS.2.2 dX10_trace_22
def rm_k10_twins : Room := { frames := 2, cells := 0, slots := 0, locals := 42 }
set_option maxHeartbeats 4000000 in
set_option maxRecDepth 100000 in
theorem k10_twins (l : Launch) (dC : Nat → ClassId) (dI : Nat → Nat → Nat) (kB kI kJ kZ kC kS : ClassId) (sz : Nat) (h0 : Nat) (xa1 : Nat) (xa3 : Nat) (xa15 : Nat) (xa27 : Nat) (xa28 : Nat) (xa33 : Nat) (xa38 : Nat) (xa41 : Nat) (xa45 : Nat) (xa46 : Nat) (xa47 : Nat) (xa52 : Nat) (xa54 : Nat) (xa55 : Nat) (xa60 : Nat) (xa62 : Nat) (xa67 : Nat) (xa4 : Nat) (xa5 : Nat) (xa6 : Nat) (xa7 : Nat) (xa8 : Nat) (xa9 : Nat) (xa10 : Nat) (xa11 : Nat) (xa12 : Nat) (xa13 : Nat) (xa14 : Nat) (p0 : Int32) (p1 : Int32) : Met l yX10_twins wsX10_twins rm_k10_twins (va_Pc [.ref h0, .int p0, .int p1] (fun U => U.heap.size = sz ∧ va_P (dC, dI) vwCl [(h0, .inr (10, [.ref xa1, .ref xa3, .ref xa15, .ref xa27, .ref xa28, .ref xa33, .ref xa38, .ref xa41, .ref xa45, .ref xa46, .ref xa47, .ref xa52, .ref xa54, .int 0, .ref xa55, .ref xa60, .ref xa62, .ref xa67, .int (-1)])), (xa3, .inr (2, [.ref xa4, .ref xa5, .ref xa6, .ref xa7, .ref xa8, .ref xa9, .ref xa10, .int 0, .int 0, .int 0, .int 5, .ref xa11, .ref xa12, .ref xa13, .ref xa14])), (xa54, .inl (kI, 3, .inl (fun _ => 0)))] U.heap ∧ kE dC dI kB kI kJ kZ kC kS U ∧ va_D (fun _ => True) [(h0, .inr (10, [.ref xa1, .ref xa3, .ref xa15, .ref xa27, .ref xa28, .ref xa33, .ref xa38, .ref xa41, .ref xa45, .ref xa46, .ref xa47, .ref xa52, .ref xa54, .int 0, .ref xa55, .ref xa60, .ref xa62, .ref xa67, .int (-1)])), (xa3, .inr (2, [.ref xa4, .ref xa5, .ref xa6, .ref xa7, .ref xa8, .ref xa9, .ref xa10, .int 0, .int 0, .int 0, .int 5, .ref xa11, .ref xa12, .ref xa13, .ref xa14])), (xa54, .inl (kI, 3, .inl (fun _ => 0)))])) (va_Qi (fun (r : Int32) (_ : Unit) => r = -1) (fun _ t => va_P (dC, dI) vwCl [] t.heap ∧ va_D (va_A [(h0, .inr (10, [.ref xa1, .ref xa3, .ref xa15, .ref xa27, .ref xa28, .ref xa33, .ref xa38, .ref xa41, .ref xa45, .ref xa46, .ref xa47, .ref xa52, .ref xa54, .int 0, .ref xa55, .ref xa60, .ref xa62, .ref xa67, .int (-1)])), (xa3, .inr (2, [.ref xa4, .ref xa5, .ref xa6, .ref xa7, .ref xa8, .ref xa9, .ref xa10, .int 0, .int 0, .int 0, .int 5, .ref xa11, .ref xa12, .ref xa13, .ref xa14])), (xa54, .inl (kI, 3, .inl (fun _ => 0)))] sz) []) (va_A [(h0, .inr (10, [.ref xa1, .ref xa3, .ref xa15, .ref xa27, .ref xa28, .ref xa33, .ref xa38, .ref xa41, .ref xa45, .ref xa46, .ref xa47, .ref xa52, .ref xa54, .int 0, .ref xa55, .ref xa60, .ref xa62, .ref xa67, .int (-1)])), (xa3, .inr (2, [.ref xa4, .ref xa5, .ref xa6, .ref xa7, .ref xa8, .ref xa9, .ref xa10, .int 0, .int 0, .int 0, .int 5, .ref xa11, .ref xa12, .ref xa13, .ref xa14])), (xa54, .inl (kI, 3, .inl (fun _ => 0)))] sz)) 0 0 (va_A [(h0, .inr (10, [.ref xa1, .ref xa3, .ref xa15, .ref xa27, .ref xa28, .ref xa33, .ref xa38, .ref xa41, .ref xa45, .ref xa46, .ref xa47, .ref xa52, .ref xa54, .int 0, .ref xa55, .ref xa60, .ref xa62, .ref xa67, .int (-1)])), (xa3, .inr (2, [.ref xa4, .ref xa5, .ref xa6, .ref xa7, .ref xa8, .ref xa9, .ref xa10, .int 0, .int 0, .int 0, .int 5, .ref xa11, .ref xa12, .ref xa13, .ref xa14])), (xa54, .inl (kI, 3, .inl (fun _ => 0)))] sz) := by
  refine Met.ofW (cc := cX10_twins) (maxL := 3) (ret := (some .int)) (by decide) rfl ?_
  intro p e s m args0 below meth c s₁ B hml hv
  obtain ⟨hargs, hsz, hP, hE, hD0⟩ := hv
  have hx := B.exec
  have hb := B.bytes
  have hr := B.returns
  have hts := atoms_spec (ws := wsX10_twins) B.pre
  have hown : s.vm.findClass RX10 = some m.cls := findClass_of_methodNamed B.named
  have hlocks := B.notSynchronized
  have hK := hE.1
  have hin10 : ∀ w ∈ wsX100, w ∈ wsX10_twins := fun _ h9 => List.mem_cons_of_mem _ (List.mem_append_left _ (List.mem_append_left _ (List.mem_append_left _ (List.mem_append_left _ (List.mem_append_left _ (List.mem_append_right _ h9))))))
  have hin2 : ∀ w ∈ wsX20, w ∈ wsX10_twins := fun _ h9 => List.mem_cons_of_mem _ (List.mem_append_left _ (List.mem_append_left _ (List.mem_append_left _ (List.mem_append_left _ (List.mem_append_right _ h9)))))
  have hin7 : ∀ w ∈ wsX70, w ∈ wsX10_twins := fun _ h9 => List.mem_cons_of_mem _ (List.mem_append_left _ (List.mem_append_left _ (List.mem_append_left _ (List.mem_append_right _ h9))))
  have hin0 : ∀ w ∈ wsX00, w ∈ wsX10_twins := fun _ h9 => List.mem_cons_of_mem _ (List.mem_append_left _ (List.mem_append_left _ (List.mem_append_right _ h9)))
  have hin1 : ∀ w ∈ wsX10, w ∈ wsX10_twins := fun _ h9 => List.mem_cons_of_mem _ (List.mem_append_left _ (List.mem_append_right _ h9))
  have hin6 : ∀ w ∈ wsX60, w ∈ wsX10_twins := fun _ h9 => List.mem_cons_of_mem _ (List.mem_append_right _ h9)
  subst hsz
  have hD := hD0.self (sz := s.heap.size)
  generalize hAe : va_A [(h0, .inr (10, [.ref xa1, .ref xa3, .ref xa15, .ref xa27, .ref xa28, .ref xa33, .ref xa38, .ref xa41, .ref xa45, .ref xa46, .ref xa47, .ref xa52, .ref xa54, .int 0, .ref xa55, .ref xa60, .ref xa62, .ref xa67, .int (-1)])), (xa3, .inr (2, [.ref xa4, .ref xa5, .ref xa6, .ref xa7, .ref xa8, .ref xa9, .ref xa10, .int 0, .int 0, .int 0, .int 5, .ref xa11, .ref xa12, .ref xa13, .ref xa14])), (xa54, .inl (kI, 3, .inl (fun _ => 0)))] s.heap.size = A at hD ⊢
  have hA : ∀ q : Nat, s.heap.size ≤ q → A q := fun q h => by rw [← hAe]; exact Or.inr h
  have hS : va_S A s.heap s.heap [] := va_S.rf
  have hP : va_P (dC, dI) vwCl [(h0, .inr (10, [.ref xa1, .ref xa3, .ref xa15, .ref xa27, .ref xa28, .ref xa33, .ref xa38, .ref xa41, .ref xa45, .ref xa46, .ref xa47, .ref xa52, .ref xa54, .int 0, .ref xa55, .ref xa60, .ref xa62, .ref xa67, .int (-1)])), (xa3, .inr (2, [.ref xa4, .ref xa5, .ref xa6, .ref xa7, .ref xa8, .ref xa9, .ref xa10, .int 0, .int 0, .int 0, .int 5, .ref xa11, .ref xa12, .ref xa13, .ref xa14])), (xa54, .inl (kI, 3, .inl (fun _ => 0)))] s.heap := hP
  have hl := lv_entry ([.ref h0, .int p0, .int p1]) (n := 3) (Nat.le_of_ble_eq_true rfl)
  have hla : entryFrame m args0 3 = entryFrame m ([.ref h0, .int p0, .int p1] : List Value).toArray 3 := by rw [hargs]
  rw [hla, lg_entry_eq]
  generalize (lg_sl ([.ref h0, .int p0, .int p1]) ++ List.replicate (3 - (lg_sl ([.ref h0, .int p0, .int p1])).length) Slot.unset).toArray = ls at hl ⊢
  have hl : lv_has ls 3 [(0, .ref h0), (1, .int p0), (2, .int p1)] := hl
  refine lv_iload_n hx hb dX10_twins_0 rfl (lv_at hl 1 rfl) ?_
  refine lv_iload_n hx hb dX10_twins_1 rfl (lv_at hl 2 rfl) ?_
  refine lv_icmp_eq (tgt := 21) hx hb dX10_twins_2 (by decide) (fun c1 => ?_) (fun c1 => ?_)
  · refine lv_aload_n hx hb dX10_twins_21 rfl (lv_at hl 0 rfl) ?_
    have hPc := hP.sub (ws' := [(h0, .inr (10, [.ref xa1, .ref xa3, .ref xa15, .ref xa27, .ref xa28, .ref xa33, .ref xa38, .ref xa41, .ref xa45, .ref xa46, .ref xa47, .ref xa52, .ref xa54, .int 0, .ref xa55, .ref xa60, .ref xa62, .ref xa67, .int (-1)])), (xa54, .inl (kI, 3, .inl (fun _ => 0)))]) [0, 2] rfl
    have hDc := hD.sub (ws' := [(h0, .inr (10, [.ref xa1, .ref xa3, .ref xa15, .ref xa27, .ref xa28, .ref xa33, .ref xa38, .ref xa41, .ref xa45, .ref xa46, .ref xa47, .ref xa52, .ref xa54, .int 0, .ref xa55, .ref xa60, .ref xa62, .ref xa67, .int (-1)])), (xa54, .inl (kI, 3, .inl (fun _ => 0)))]) [0, 2] (by decide) rfl
    have hFc := va_free (wc := [(h0, .inr (10, [.ref xa1, .ref xa3, .ref xa15, .ref xa27, .ref xa28, .ref xa33, .ref xa38, .ref xa41, .ref xa45, .ref xa46, .ref xa47, .ref xa52, .ref xa54, .int 0, .ref xa55, .ref xa60, .ref xa62, .ref xa67, .int (-1)])), (xa54, .inl (kI, 3, .inl (fun _ => 0)))]) hD hS hA [0, 2] rfl
    refine va_calli (va_runV (As := []) (rest := []) ⟨hx, hb, hml, hown, hts⟩ (k10_refuseAct l dC dI kB kI kJ kZ kC kS s.heap.size h0 xa1 xa3 xa15 xa27 xa28 xa33 xa38 xa41 xa45 xa46 xa47 xa52 xa54 xa55 xa60 xa62 xa67) (cwV 0 hts gX10_twins_X10_refuseAct rfl rfl rfl (by decide +kernel) ⟨Nat.le_of_ble_eq_true rfl, Nat.le_of_ble_eq_true rfl⟩) ⟨fun a U g mk q => by obtain ⟨q0, q1, qP, qE, qD⟩ := q; exact ⟨q0, q1, qP, kE_call qE, qD⟩, va_recv hK hP (ci := 10) (q0 := 0) rfl rfl, fun U hU hW => ⟨rfl, by rw [hU], by rw [hU]; exact hPc, kE_warm hW hE, hDc.weaken (fun _ _ _ _ => trivial)⟩⟩ rfl rfl hl.1 rfl (lv_room (Nat.le_of_ble_eq_true rfl)) dX10_twins_22 ⟨Nat.le_of_ble_eq_true rfl, Nat.le_of_ble_eq_true rfl⟩) hS (fun q _ h => hFc q h) hFc (fun r2 u t H1 locs ht hvm w3 hB hz1 hk1 hS => ?_)
    obtain ⟨hP1, hD1⟩ := hB
    rw [ht] at hP1
    try dsimp only at w3
    obtain ⟨hP, hD⟩ := va_join (wr := [(xa3, .inr (2, [.ref xa4, .ref xa5, .ref xa6, .ref xa7, .ref xa8, .ref xa9, .ref xa10, .int 0, .int 0, .int 0, .int 5, .ref xa11, .ref xa12, .ref xa13, .ref xa14]))]) (w1 := []) hP hD [0, 2] [1] rfl rfl (by decide) (by decide) hk1 hFc hP1 hD1
    generalize H1 = H at hP hS ⊢
    have hP : va_P (dC, dI) vwCl [(xa3, .inr (2, [.ref xa4, .ref xa5, .ref xa6, .ref xa7, .ref xa8, .ref xa9, .ref xa10, .int 0, .int 0, .int 0, .int 5, .ref xa11, .ref xa12, .ref xa13, .ref xa14]))] H := hP
    have hD : va_D A [(xa3, .inr (2, [.ref xa4, .ref xa5, .ref xa6, .ref xa7, .ref xa8, .ref xa9, .ref xa10, .int 0, .int 0, .int 0, .int 5, .ref xa11, .ref xa12, .ref xa13, .ref xa14]))] := hD
    refine W.widen (k := 0) (n := 0) (Nat.le_of_ble_eq_true rfl) (Nat.le_of_ble_eq_true rfl) ?_
    subst w3
    have hP9 := hP.sub (ws' := []) [] rfl
    have hD9 := hD.sub (ws' := []) [] (by decide) rfl
    exact W.iret (v := (-1)) hx hb hr (fun t ht hW => ⟨⟨(-1), (), rfl, rfl, by rw [ht]; exact hP9, hD9⟩, hS.F ht⟩) hS.2.2 dX10_twins_25
  · refine lv_aload_n hx hb dX10_twins_5 rfl (lv_at hl 0 rfl) ?_
    refine lv_iload_n hx hb dX10_twins_6 rfl (lv_at hl 1 rfl) ?_
    have hPc := hP.sub (ws' := [(h0, .inr (10, [.ref xa1, .ref xa3, .ref xa15, .ref xa27, .ref xa28, .ref xa33, .ref xa38, .ref xa41, .ref xa45, .ref xa46, .ref xa47, .ref xa52, .ref xa54, .int 0, .ref xa55, .ref xa60, .ref xa62, .ref xa67, .int (-1)])), (xa3, .inr (2, [.ref xa4, .ref xa5, .ref xa6, .ref xa7, .ref xa8, .ref xa9, .ref xa10, .int 0, .int 0, .int 0, .int 5, .ref xa11, .ref xa12, .ref xa13, .ref xa14]))]) [0, 1] rfl
    have hDc := hD.sub (ws' := [(h0, .inr (10, [.ref xa1, .ref xa3, .ref xa15, .ref xa27, .ref xa28, .ref xa33, .ref xa38, .ref xa41, .ref xa45, .ref xa46, .ref xa47, .ref xa52, .ref xa54, .int 0, .ref xa55, .ref xa60, .ref xa62, .ref xa67, .int (-1)])), (xa3, .inr (2, [.ref xa4, .ref xa5, .ref xa6, .ref xa7, .ref xa8, .ref xa9, .ref xa10, .int 0, .int 0, .int 0, .int 5, .ref xa11, .ref xa12, .ref xa13, .ref xa14]))]) [0, 1] (by decide) rfl
    have hFc := va_free (wc := [(h0, .inr (10, [.ref xa1, .ref xa3, .ref xa15, .ref xa27, .ref xa28, .ref xa33, .ref xa38, .ref xa41, .ref xa45, .ref xa46, .ref xa47, .ref xa52, .ref xa54, .int 0, .ref xa55, .ref xa60, .ref xa62, .ref xa67, .int (-1)])), (xa3, .inr (2, [.ref xa4, .ref xa5, .ref xa6, .ref xa7, .ref xa8, .ref xa9, .ref xa10, .int 0, .int 0, .int 0, .int 5, .ref xa11, .ref xa12, .ref xa13, .ref xa14]))]) hD hS hA [0, 1] rfl
    refine va_calli (va_runV (As := [.int p0]) (rest := []) ⟨hx, hb, hml, hown, hts⟩ (k10_wasSeen l dC dI kB kI kJ kZ kC kS s.heap.size h0 xa1 xa3 xa15 xa27 xa28 xa33 xa38 xa41 xa45 xa46 xa47 xa52 xa54 xa55 xa60 xa62 xa67 xa4 xa5 xa6 xa7 xa8 xa9 xa10 xa11 xa12 xa13 xa14 p0) (cwV 1 hts gX10_twins_X10_wasSeen rfl rfl rfl (by decide +kernel) ⟨Nat.le_of_ble_eq_true rfl, Nat.le_of_ble_eq_true rfl⟩) ⟨fun a U g mk q => by obtain ⟨q0, q1, qP, qE, qD⟩ := q; exact ⟨q0, q1, qP, kE_call qE, qD⟩, va_recv hK hP (ci := 10) (q0 := 0) rfl rfl, fun U hU hW => ⟨rfl, by rw [hU], by rw [hU]; exact hPc, kE_warm hW hE, hDc.weaken (fun _ _ _ _ => trivial)⟩⟩ rfl rfl hl.1 rfl (lv_room (Nat.le_of_ble_eq_true rfl)) dX10_twins_7 ⟨Nat.le_of_ble_eq_true rfl, Nat.le_of_ble_eq_true rfl⟩) hS (fun q _ h => hFc q h) hFc (fun r4 u t H1 locs ht hvm w5 hB hz1 hk1 hS => ?_)
    obtain ⟨hP1, hD1⟩ := hB
    rw [ht] at hP1
    try dsimp only at w5
    obtain ⟨hP, hD⟩ := va_join (wr := [(xa54, .inl (kI, 3, .inl (fun _ => 0)))]) (w1 := [(h0, .inr (10, [.ref xa1, .ref xa3, .ref xa15, .ref xa27, .ref xa28, .ref xa33, .ref xa38, .ref xa41, .ref xa45, .ref xa46, .ref xa47, .ref xa52, .ref xa54, .int 0, .ref xa55, .ref xa60, .ref xa62, .ref xa67, .int (-1)])), (xa3, .inr (2, [.ref xa4, .ref xa5, .ref xa6, .ref xa7, .ref xa8, .ref xa9, .ref xa10, .int 0, .int 0, .int 0, .int 5, .ref xa11, .ref xa12, .ref xa13, .ref xa14]))]) hP hD [0, 1] [2] rfl rfl (by decide) (by decide) hk1 hFc hP1 hD1
    generalize H1 = H at hP hS ⊢
    have hP : va_P (dC, dI) vwCl [(xa54, .inl (kI, 3, .inl (fun _ => 0))), (h0, .inr (10, [.ref xa1, .ref xa3, .ref xa15, .ref xa27, .ref xa28, .ref xa33, .ref xa38, .ref xa41, .ref xa45, .ref xa46, .ref xa47, .ref xa52, .ref xa54, .int 0, .ref xa55, .ref xa60, .ref xa62, .ref xa67, .int (-1)])), (xa3, .inr (2, [.ref xa4, .ref xa5, .ref xa6, .ref xa7, .ref xa8, .ref xa9, .ref xa10, .int 0, .int 0, .int 0, .int 5, .ref xa11, .ref xa12, .ref xa13, .ref xa14]))] H := hP
    have hD : va_D A [(xa54, .inl (kI, 3, .inl (fun _ => 0))), (h0, .inr (10, [.ref xa1, .ref xa3, .ref xa15, .ref xa27, .ref xa28, .ref xa33, .ref xa38, .ref xa41, .ref xa45, .ref xa46, .ref xa47, .ref xa52, .ref xa54, .int 0, .ref xa55, .ref xa60, .ref xa62, .ref xa67, .int (-1)])), (xa3, .inr (2, [.ref xa4, .ref xa5, .ref xa6, .ref xa7, .ref xa8, .ref xa9, .ref xa10, .int 0, .int 0, .int 0, .int 5, .ref xa11, .ref xa12, .ref xa13, .ref xa14]))] := hD
    refine W.widen (k := 0) (n := 0) (Nat.le_of_ble_eq_true rfl) (Nat.le_of_ble_eq_true rfl) ?_
    subst w5
    refine lv_if_eq (tgt := 21) hx hb dX10_twins_10 (by decide) (fun _ => ?_) (fun c9 => absurd (by decide) c9)
    refine lv_aload_n hx hb dX10_twins_21 rfl (lv_at hl 0 rfl) ?_
    have hPc := hP.sub (ws' := [(h0, .inr (10, [.ref xa1, .ref xa3, .ref xa15, .ref xa27, .ref xa28, .ref xa33, .ref xa38, .ref xa41, .ref xa45, .ref xa46, .ref xa47, .ref xa52, .ref xa54, .int 0, .ref xa55, .ref xa60, .ref xa62, .ref xa67, .int (-1)])), (xa54, .inl (kI, 3, .inl (fun _ => 0)))]) [1, 0] rfl
    have hDc := hD.sub (ws' := [(h0, .inr (10, [.ref xa1, .ref xa3, .ref xa15, .ref xa27, .ref xa28, .ref xa33, .ref xa38, .ref xa41, .ref xa45, .ref xa46, .ref xa47, .ref xa52, .ref xa54, .int 0, .ref xa55, .ref xa60, .ref xa62, .ref xa67, .int (-1)])), (xa54, .inl (kI, 3, .inl (fun _ => 0)))]) [1, 0] (by decide) rfl
    have hFc := va_free (wc := [(h0, .inr (10, [.ref xa1, .ref xa3, .ref xa15, .ref xa27, .ref xa28, .ref xa33, .ref xa38, .ref xa41, .ref xa45, .ref xa46, .ref xa47, .ref xa52, .ref xa54, .int 0, .ref xa55, .ref xa60, .ref xa62, .ref xa67, .int (-1)])), (xa54, .inl (kI, 3, .inl (fun _ => 0)))]) hD hS hA [1, 0] rfl
    refine va_calli (va_runV (As := []) (rest := []) ⟨hx, hb, hml, hown, hts⟩ (k10_refuseAct l dC dI kB kI kJ kZ kC kS H.size h0 xa1 xa3 xa15 xa27 xa28 xa33 xa38 xa41 xa45 xa46 xa47 xa52 xa54 xa55 xa60 xa62 xa67) (cwV 0 hts gX10_twins_X10_refuseAct rfl rfl rfl (by decide +kernel) ⟨Nat.le_of_ble_eq_true rfl, Nat.le_of_ble_eq_true rfl⟩) ⟨fun a U g mk q => by obtain ⟨q0, q1, qP, qE, qD⟩ := q; exact ⟨q0, q1, qP, kE_call qE, qD⟩, va_recv hK hP (ci := 10) (q0 := 1) rfl rfl, fun U hU hW => ⟨rfl, by rw [hU], by rw [hU]; exact hPc, kE_warm hW hE, hDc.weaken (fun _ _ _ _ => trivial)⟩⟩ rfl rfl hl.1 rfl (lv_room (Nat.le_of_ble_eq_true rfl)) dX10_twins_22 ⟨Nat.le_of_ble_eq_true rfl, Nat.le_of_ble_eq_true rfl⟩) hS (fun q _ h => hFc q h) hFc (fun r6 u t H1 locs ht hvm w7 hB hz1 hk1 hS => ?_)
    obtain ⟨hP1, hD1⟩ := hB
    rw [ht] at hP1
    try dsimp only at w7
    obtain ⟨hP, hD⟩ := va_join (wr := [(xa3, .inr (2, [.ref xa4, .ref xa5, .ref xa6, .ref xa7, .ref xa8, .ref xa9, .ref xa10, .int 0, .int 0, .int 0, .int 5, .ref xa11, .ref xa12, .ref xa13, .ref xa14]))]) (w1 := []) hP hD [1, 0] [2] rfl rfl (by decide) (by decide) hk1 hFc hP1 hD1
    generalize H1 = H at hP hS ⊢
    have hP : va_P (dC, dI) vwCl [(xa3, .inr (2, [.ref xa4, .ref xa5, .ref xa6, .ref xa7, .ref xa8, .ref xa9, .ref xa10, .int 0, .int 0, .int 0, .int 5, .ref xa11, .ref xa12, .ref xa13, .ref xa14]))] H := hP
    have hD : va_D A [(xa3, .inr (2, [.ref xa4, .ref xa5, .ref xa6, .ref xa7, .ref xa8, .ref xa9, .ref xa10, .int 0, .int 0, .int 0, .int 5, .ref xa11, .ref xa12, .ref xa13, .ref xa14]))] := hD
    refine W.widen (k := 0) (n := 0) (Nat.le_of_ble_eq_true rfl) (Nat.le_of_ble_eq_true rfl) ?_
    subst w7
    have hP9 := hP.sub (ws' := []) [] rfl
    have hD9 := hD.sub (ws' := []) [] (by decide) rfl
    exact W.iret (v := (-1)) hx hb hr (fun t ht hW => ⟨⟨(-1), (), rfl, rfl, by rw [ht]; exact hP9, hD9⟩, hS.F ht⟩) hS.2.2 dX10_twins_25
def rm_k10_undo : Room := { frames := 0, cells := 0, slots := 0, locals := 0 }
set_option maxHeartbeats 4000000 in
set_option maxRecDepth 100000 in
theorem k10_undo (l : Launch) (dC : Nat → ClassId) (dI : Nat → Nat → Nat) (kB kI kJ kZ kC kS : ClassId) (sz : Nat) (h0 : Nat) (xa1 : Nat) (xa3 : Nat) (xa15 : Nat) (xa27 : Nat) (xa28 : Nat) (xa33 : Nat) (xa38 : Nat) (xa41 : Nat) (xa45 : Nat) (xa46 : Nat) (xa47 : Nat) (xa52 : Nat) (xa54 : Nat) (xa55 : Nat) (xa60 : Nat) (xa62 : Nat) (xa67 : Nat) (xa53 : Nat) : Met l yX10_undo wsX10_undo rm_k10_undo (va_Pc [.ref h0] (fun U => U.heap.size = sz ∧ va_P (dC, dI) vwCl [(h0, .inr (10, [.ref xa1, .ref xa3, .ref xa15, .ref xa27, .ref xa28, .ref xa33, .ref xa38, .ref xa41, .ref xa45, .ref xa46, .ref xa47, .ref xa52, .ref xa54, .int 0, .ref xa55, .ref xa60, .ref xa62, .ref xa67, .int (-1)])), (xa52, .inr (1, [.ref xa53, .int 0, .int 0]))] U.heap ∧ kE dC dI kB kI kJ kZ kC kS U ∧ va_D (fun _ => True) [(h0, .inr (10, [.ref xa1, .ref xa3, .ref xa15, .ref xa27, .ref xa28, .ref xa33, .ref xa38, .ref xa41, .ref xa45, .ref xa46, .ref xa47, .ref xa52, .ref xa54, .int 0, .ref xa55, .ref xa60, .ref xa62, .ref xa67, .int (-1)])), (xa52, .inr (1, [.ref xa53, .int 0, .int 0]))])) (va_Qi (fun (r : Int32) (_ : Unit) => r = -1) (fun _ t => va_P (dC, dI) vwCl [] t.heap ∧ va_D (va_A [(h0, .inr (10, [.ref xa1, .ref xa3, .ref xa15, .ref xa27, .ref xa28, .ref xa33, .ref xa38, .ref xa41, .ref xa45, .ref xa46, .ref xa47, .ref xa52, .ref xa54, .int 0, .ref xa55, .ref xa60, .ref xa62, .ref xa67, .int (-1)])), (xa52, .inr (1, [.ref xa53, .int 0, .int 0]))] sz) []) (va_A [(h0, .inr (10, [.ref xa1, .ref xa3, .ref xa15, .ref xa27, .ref xa28, .ref xa33, .ref xa38, .ref xa41, .ref xa45, .ref xa46, .ref xa47, .ref xa52, .ref xa54, .int 0, .ref xa55, .ref xa60, .ref xa62, .ref xa67, .int (-1)])), (xa52, .inr (1, [.ref xa53, .int 0, .int 0]))] sz)) 0 0 (va_A [(h0, .inr (10, [.ref xa1, .ref xa3, .ref xa15, .ref xa27, .ref xa28, .ref xa33, .ref xa38, .ref xa41, .ref xa45, .ref xa46, .ref xa47, .ref xa52, .ref xa54, .int 0, .ref xa55, .ref xa60, .ref xa62, .ref xa67, .int (-1)])), (xa52, .inr (1, [.ref xa53, .int 0, .int 0]))] sz) := by
  refine Met.ofW (cc := cX10_undo) (maxL := 1) (ret := (some .int)) (by decide) rfl ?_
  intro p e s m args0 below meth c s₁ B hml hv
  obtain ⟨hargs, hsz, hP, hE, hD0⟩ := hv
  have hx := B.exec
  have hb := B.bytes
  have hr := B.returns
  have hts := atoms_spec (ws := wsX10_undo) B.pre
  have hown : s.vm.findClass RX10 = some m.cls := findClass_of_methodNamed B.named
  have hlocks := B.notSynchronized
  have hK := hE.1
  have hin10 : ∀ w ∈ wsX100, w ∈ wsX10_undo := fun _ h9 => List.mem_cons_of_mem _ (List.mem_append_left _ (List.mem_append_left _ (List.mem_append_right _ h9)))
  have hin1 : ∀ w ∈ wsX10, w ∈ wsX10_undo := fun _ h9 => List.mem_cons_of_mem _ (List.mem_append_left _ (List.mem_append_right _ h9))
  have hin0 : ∀ w ∈ wsX00, w ∈ wsX10_undo := fun _ h9 => List.mem_cons_of_mem _ (List.mem_append_right _ h9)
  subst hsz
  have hD := hD0.self (sz := s.heap.size)
  generalize hAe : va_A [(h0, .inr (10, [.ref xa1, .ref xa3, .ref xa15, .ref xa27, .ref xa28, .ref xa33, .ref xa38, .ref xa41, .ref xa45, .ref xa46, .ref xa47, .ref xa52, .ref xa54, .int 0, .ref xa55, .ref xa60, .ref xa62, .ref xa67, .int (-1)])), (xa52, .inr (1, [.ref xa53, .int 0, .int 0]))] s.heap.size = A at hD ⊢
  have hA : ∀ q : Nat, s.heap.size ≤ q → A q := fun q h => by rw [← hAe]; exact Or.inr h
  have hS : va_S A s.heap s.heap [] := va_S.rf
  have hP : va_P (dC, dI) vwCl [(h0, .inr (10, [.ref xa1, .ref xa3, .ref xa15, .ref xa27, .ref xa28, .ref xa33, .ref xa38, .ref xa41, .ref xa45, .ref xa46, .ref xa47, .ref xa52, .ref xa54, .int 0, .ref xa55, .ref xa60, .ref xa62, .ref xa67, .int (-1)])), (xa52, .inr (1, [.ref xa53, .int 0, .int 0]))] s.heap := hP
  have hl := lv_entry ([.ref h0]) (n := 1) (Nat.le_of_ble_eq_true rfl)
  have hla : entryFrame m args0 1 = entryFrame m ([.ref h0] : List Value).toArray 1 := by rw [hargs]
  rw [hla, lg_entry_eq]
  generalize (lg_sl ([.ref h0]) ++ List.replicate (1 - (lg_sl ([.ref h0])).length) Slot.unset).toArray = ls at hl ⊢
  have hl : lv_has ls 1 [(0, .ref h0)] := hl
  refine lv_aload_n hx hb dX10_undo_0 rfl (lv_at hl 0 rfl) ?_
  refine va_get (D := (dC, dI)) (ci := 10) (v := .ref xa52) (C := RX10) (T := TX10) (N := 19) hx hb hts hin10 hown hK hP 0 rfl rfl 11 (by decide) (hts (.fieldLink RX10 89 "PathProber" "history" "LPathProber$History;") (List.mem_of_getElem? (i := 1) (by decide +kernel))) (fun _ h9 => h9) rfl dX10_undo_1 ?_
  refine va_get (D := (dC, dI)) (ci := 1) (v := .int 0) (C := RX1) (T := TX1) (N := 3) hx hb hts hin1 hown hK hP 1 rfl rfl 2 (by decide) (hts (.fieldLink RX10 155 "PathProber$History" "size" "I") (List.mem_of_getElem? (i := 2) (by decide +kernel))) (fun _ h9 => h9) rfl dX10_undo_4 ?_
  refine lv_if_ne (tgt := 12) hx hb dX10_undo_7 (by decide) (fun c9 => absurd (by decide) c9) (fun _ => ?_)
  refine lv_iconst (v := (-1)) hx hb dX10_undo_10 (by decide) ?_
  have hP9 := hP.sub (ws' := []) [] rfl
  have hD9 := hD.sub (ws' := []) [] (by decide) rfl
  exact W.iret (v := (-1)) hx hb hr (fun t ht hW => ⟨⟨(-1), (), rfl, rfl, by rw [ht]; exact hP9, hD9⟩, hS.F ht⟩) hS.2.2 dX10_undo_11
def rm_k10_note : Room := { frames := 1, cells := 0, slots := 0, locals := 21 }
set_option maxHeartbeats 4000000 in
set_option maxRecDepth 100000 in
theorem k10_note (l : Launch) (dC : Nat → ClassId) (dI : Nat → Nat → Nat) (kB kI kJ kZ kC kS : ClassId) (sz : Nat) (h0 : Nat) (xa1 : Nat) (xa3 : Nat) (xa15 : Nat) (xa27 : Nat) (xa28 : Nat) (xa33 : Nat) (xa38 : Nat) (xa41 : Nat) (xa45 : Nat) (xa46 : Nat) (xa47 : Nat) (xa52 : Nat) (xa54 : Nat) (xa55 : Nat) (xa60 : Nat) (xa62 : Nat) (xa67 : Nat) (xa4 : Nat) (xa5 : Nat) (xa6 : Nat) (xa7 : Nat) (xa8 : Nat) (xa9 : Nat) (xa10 : Nat) (xa11 : Nat) (xa12 : Nat) (xa13 : Nat) (xa14 : Nat) (xa48 : Nat) (xa49 : Nat) (xa50 : Nat) (xa51 : Nat) (p0 : Int32) (p1 : Int32) (p2 : Int32) (p3 : Int32) : Met l yX10_note wsX10_note rm_k10_note (va_Pc [.ref h0, .int p0, .int p1, .int p2, .int p3] (fun U => U.heap.size = sz ∧ va_P (dC, dI) vwCl [(h0, .inr (10, [.ref xa1, .ref xa3, .ref xa15, .ref xa27, .ref xa28, .ref xa33, .ref xa38, .ref xa41, .ref xa45, .ref xa46, .ref xa47, .ref xa52, .ref xa54, .int 0, .ref xa55, .ref xa60, .ref xa62, .ref xa67, .int (-1)])), (xa3, .inr (2, [.ref xa4, .ref xa5, .ref xa6, .ref xa7, .ref xa8, .ref xa9, .ref xa10, .int 0, .int 0, .int 0, .int 5, .ref xa11, .ref xa12, .ref xa13, .ref xa14])), (xa54, .inl (kI, 3, .inl (fun _ => 0))), (xa47, .inr (3, [.ref xa3, .ref xa45, .ref xa48, .ref xa49, .ref xa50, .ref xa51, .int 0, .int (-1), .int 0]))] U.heap ∧ kE dC dI kB kI kJ kZ kC kS U ∧ va_D (fun _ => True) [(h0, .inr (10, [.ref xa1, .ref xa3, .ref xa15, .ref xa27, .ref xa28, .ref xa33, .ref xa38, .ref xa41, .ref xa45, .ref xa46, .ref xa47, .ref xa52, .ref xa54, .int 0, .ref xa55, .ref xa60, .ref xa62, .ref xa67, .int (-1)])), (xa3, .inr (2, [.ref xa4, .ref xa5, .ref xa6, .ref xa7, .ref xa8, .ref xa9, .ref xa10, .int 0, .int 0, .int 0, .int 5, .ref xa11, .ref xa12, .ref xa13, .ref xa14])), (xa54, .inl (kI, 3, .inl (fun _ => 0))), (xa47, .inr (3, [.ref xa3, .ref xa45, .ref xa48, .ref xa49, .ref xa50, .ref xa51, .int 0, .int (-1), .int 0]))])) (va_Qi (fun (r : Int32) (_ : Unit) => r = -1) (fun _ t => va_P (dC, dI) vwCl [] t.heap ∧ va_D (va_A [(h0, .inr (10, [.ref xa1, .ref xa3, .ref xa15, .ref xa27, .ref xa28, .ref xa33, .ref xa38, .ref xa41, .ref xa45, .ref xa46, .ref xa47, .ref xa52, .ref xa54, .int 0, .ref xa55, .ref xa60, .ref xa62, .ref xa67, .int (-1)])), (xa3, .inr (2, [.ref xa4, .ref xa5, .ref xa6, .ref xa7, .ref xa8, .ref xa9, .ref xa10, .int 0, .int 0, .int 0, .int 5, .ref xa11, .ref xa12, .ref xa13, .ref xa14])), (xa54, .inl (kI, 3, .inl (fun _ => 0))), (xa47, .inr (3, [.ref xa3, .ref xa45, .ref xa48, .ref xa49, .ref xa50, .ref xa51, .int 0, .int (-1), .int 0]))] sz) []) (va_A [(h0, .inr (10, [.ref xa1, .ref xa3, .ref xa15, .ref xa27, .ref xa28, .ref xa33, .ref xa38, .ref xa41, .ref xa45, .ref xa46, .ref xa47, .ref xa52, .ref xa54, .int 0, .ref xa55, .ref xa60, .ref xa62, .ref xa67, .int (-1)])), (xa3, .inr (2, [.ref xa4, .ref xa5, .ref xa6, .ref xa7, .ref xa8, .ref xa9, .ref xa10, .int 0, .int 0, .int 0, .int 5, .ref xa11, .ref xa12, .ref xa13, .ref xa14])), (xa54, .inl (kI, 3, .inl (fun _ => 0))), (xa47, .inr (3, [.ref xa3, .ref xa45, .ref xa48, .ref xa49, .ref xa50, .ref xa51, .int 0, .int (-1), .int 0]))] sz)) 0 0 (va_A [(h0, .inr (10, [.ref xa1, .ref xa3, .ref xa15, .ref xa27, .ref xa28, .ref xa33, .ref xa38, .ref xa41, .ref xa45, .ref xa46, .ref xa47, .ref xa52, .ref xa54, .int 0, .ref xa55, .ref xa60, .ref xa62, .ref xa67, .int (-1)])), (xa3, .inr (2, [.ref xa4, .ref xa5, .ref xa6, .ref xa7, .ref xa8, .ref xa9, .ref xa10, .int 0, .int 0, .int 0, .int 5, .ref xa11, .ref xa12, .ref xa13, .ref xa14])), (xa54, .inl (kI, 3, .inl (fun _ => 0))), (xa47, .inr (3, [.ref xa3, .ref xa45, .ref xa48, .ref xa49, .ref xa50, .ref xa51, .int 0, .int (-1), .int 0]))] sz) := by
  refine Met.ofW (cc := cX10_note) (maxL := 6) (ret := (some .int)) (by decide) rfl ?_
  intro p e s m args0 below meth c s₁ B hml hv
  obtain ⟨hargs, hsz, hP, hE, hD0⟩ := hv
  have hx := B.exec
  have hb := B.bytes
  have hr := B.returns
  have hts := atoms_spec (ws := wsX10_note) B.pre
  have hown : s.vm.findClass RX10 = some m.cls := findClass_of_methodNamed B.named
  have hlocks := B.notSynchronized
  have hK := hE.1
  have hin10 : ∀ w ∈ wsX100, w ∈ wsX10_note := fun _ h9 => List.mem_cons_of_mem _ (List.mem_append_left _ (List.mem_append_left _ (List.mem_append_right _ h9)))
  have hin3 : ∀ w ∈ wsX30, w ∈ wsX10_note := fun _ h9 => List.mem_cons_of_mem _ (List.mem_append_left _ (List.mem_append_right _ h9))
  have hin2 : ∀ w ∈ wsX20, w ∈ wsX10_note := fun _ h9 => List.mem_cons_of_mem _ (List.mem_append_right _ h9)
  subst hsz
  have hD := hD0.self (sz := s.heap.size)
  generalize hAe : va_A [(h0, .inr (10, [.ref xa1, .ref xa3, .ref xa15, .ref xa27, .ref xa28, .ref xa33, .ref xa38, .ref xa41, .ref xa45, .ref xa46, .ref xa47, .ref xa52, .ref xa54, .int 0, .ref xa55, .ref xa60, .ref xa62, .ref xa67, .int (-1)])), (xa3, .inr (2, [.ref xa4, .ref xa5, .ref xa6, .ref xa7, .ref xa8, .ref xa9, .ref xa10, .int 0, .int 0, .int 0, .int 5, .ref xa11, .ref xa12, .ref xa13, .ref xa14])), (xa54, .inl (kI, 3, .inl (fun _ => 0))), (xa47, .inr (3, [.ref xa3, .ref xa45, .ref xa48, .ref xa49, .ref xa50, .ref xa51, .int 0, .int (-1), .int 0]))] s.heap.size = A at hD ⊢
  have hA : ∀ q : Nat, s.heap.size ≤ q → A q := fun q h => by rw [← hAe]; exact Or.inr h
  have hS : va_S A s.heap s.heap [] := va_S.rf
  have hP : va_P (dC, dI) vwCl [(h0, .inr (10, [.ref xa1, .ref xa3, .ref xa15, .ref xa27, .ref xa28, .ref xa33, .ref xa38, .ref xa41, .ref xa45, .ref xa46, .ref xa47, .ref xa52, .ref xa54, .int 0, .ref xa55, .ref xa60, .ref xa62, .ref xa67, .int (-1)])), (xa3, .inr (2, [.ref xa4, .ref xa5, .ref xa6, .ref xa7, .ref xa8, .ref xa9, .ref xa10, .int 0, .int 0, .int 0, .int 5, .ref xa11, .ref xa12, .ref xa13, .ref xa14])), (xa54, .inl (kI, 3, .inl (fun _ => 0))), (xa47, .inr (3, [.ref xa3, .ref xa45, .ref xa48, .ref xa49, .ref xa50, .ref xa51, .int 0, .int (-1), .int 0]))] s.heap := hP
  have hl := lv_entry ([.ref h0, .int p0, .int p1, .int p2, .int p3]) (n := 6) (Nat.le_of_ble_eq_true rfl)
  have hla : entryFrame m args0 6 = entryFrame m ([.ref h0, .int p0, .int p1, .int p2, .int p3] : List Value).toArray 6 := by rw [hargs]
  rw [hla, lg_entry_eq]
  generalize (lg_sl ([.ref h0, .int p0, .int p1, .int p2, .int p3]) ++ List.replicate (6 - (lg_sl ([.ref h0, .int p0, .int p1, .int p2, .int p3])).length) Slot.unset).toArray = ls at hl ⊢
  have hl : lv_has ls 6 [(0, .ref h0), (1, .int p0), (2, .int p1), (3, .int p2), (4, .int p3)] := hl
  refine lv_iload_n hx hb dX10_note_0 rfl (lv_at hl 1 rfl) ?_
  have hPc := hP.sub (ws' := []) [] rfl
  have hDc := hD.sub (ws' := []) [] (by decide) rfl
  have hFc := va_free (wc := []) hD hS hA [] rfl
  refine va_calli (va_runS (As := [.int p0]) (rest := []) ⟨hx, hb, hml, hown, hts⟩ (k10_isPort l dC dI kB kI kJ kZ kC kS s.heap.size p0) (va_cwS 1 hts gX10_note_X10_isPort rfl rfl rfl (by decide +kernel) ⟨Nat.le_of_ble_eq_true rfl, Nat.le_of_ble_eq_true rfl⟩) ⟨fun a U g mk q => by obtain ⟨q0, q1, qP, qE, qD⟩ := q; exact ⟨q0, q1, qP, kE_call qE, qD⟩, fun U hU hW => ⟨rfl, by rw [hU], by rw [hU]; exact hPc, kE_warm hW hE, hDc.weaken (fun _ _ _ _ => trivial)⟩⟩ rfl rfl hl.1 rfl (lv_room (Nat.le_of_ble_eq_true rfl)) dX10_note_1 ⟨Nat.le_of_ble_eq_true rfl, Nat.le_of_ble_eq_true rfl⟩) hS (fun q _ h => hFc q h) hFc (fun r1 u t H1 locs ht hvm w2 hB hz1 hk1 hS => ?_)
  obtain ⟨hP1, hD1⟩ := hB
  rw [ht] at hP1
  try dsimp only at w2
  obtain ⟨hP, hD⟩ := va_join (wr := [(h0, .inr (10, [.ref xa1, .ref xa3, .ref xa15, .ref xa27, .ref xa28, .ref xa33, .ref xa38, .ref xa41, .ref xa45, .ref xa46, .ref xa47, .ref xa52, .ref xa54, .int 0, .ref xa55, .ref xa60, .ref xa62, .ref xa67, .int (-1)])), (xa3, .inr (2, [.ref xa4, .ref xa5, .ref xa6, .ref xa7, .ref xa8, .ref xa9, .ref xa10, .int 0, .int 0, .int 0, .int 5, .ref xa11, .ref xa12, .ref xa13, .ref xa14])), (xa54, .inl (kI, 3, .inl (fun _ => 0))), (xa47, .inr (3, [.ref xa3, .ref xa45, .ref xa48, .ref xa49, .ref xa50, .ref xa51, .int 0, .int (-1), .int 0]))]) (w1 := []) hP hD [] [0, 1, 2, 3] rfl rfl (by decide) (by decide) hk1 hFc hP1 hD1
  generalize H1 = H at hP hS ⊢
  have hP : va_P (dC, dI) vwCl [(h0, .inr (10, [.ref xa1, .ref xa3, .ref xa15, .ref xa27, .ref xa28, .ref xa33, .ref xa38, .ref xa41, .ref xa45, .ref xa46, .ref xa47, .ref xa52, .ref xa54, .int 0, .ref xa55, .ref xa60, .ref xa62, .ref xa67, .int (-1)])), (xa3, .inr (2, [.ref xa4, .ref xa5, .ref xa6, .ref xa7, .ref xa8, .ref xa9, .ref xa10, .int 0, .int 0, .int 0, .int 5, .ref xa11, .ref xa12, .ref xa13, .ref xa14])), (xa54, .inl (kI, 3, .inl (fun _ => 0))), (xa47, .inr (3, [.ref xa3, .ref xa45, .ref xa48, .ref xa49, .ref xa50, .ref xa51, .int 0, .int (-1), .int 0]))] H := hP
  have hD : va_D A [(h0, .inr (10, [.ref xa1, .ref xa3, .ref xa15, .ref xa27, .ref xa28, .ref xa33, .ref xa38, .ref xa41, .ref xa45, .ref xa46, .ref xa47, .ref xa52, .ref xa54, .int 0, .ref xa55, .ref xa60, .ref xa62, .ref xa67, .int (-1)])), (xa3, .inr (2, [.ref xa4, .ref xa5, .ref xa6, .ref xa7, .ref xa8, .ref xa9, .ref xa10, .int 0, .int 0, .int 0, .int 5, .ref xa11, .ref xa12, .ref xa13, .ref xa14])), (xa54, .inl (kI, 3, .inl (fun _ => 0))), (xa47, .inr (3, [.ref xa3, .ref xa45, .ref xa48, .ref xa49, .ref xa50, .ref xa51, .int 0, .int (-1), .int 0]))] := hD
  refine W.widen (k := 0) (n := 0) (Nat.le_of_ble_eq_true rfl) (Nat.le_of_ble_eq_true rfl) ?_
  refine lv_if_eq (tgt := 41) hx hb dX10_note_4 (by decide) (fun c3 => ?_) (fun c3 => ?_)
  · refine lv_iconst (v := 0) hx hb dX10_note_41 (by decide) ?_
    refine lv_istore (lv' := [(5, .int 0), (0, .ref h0), (1, .int p0), (2, .int p1), (3, .int p2), (4, .int p3)]) hx hb dX10_note_42 hl (by decide) rfl (fun ls hl => ?_)
    refine lv_iload hx hb dX10_note_44 (lv_at hl 0 rfl) ?_
    refine lv_if_eq (tgt := 61) hx hb dX10_note_46 (by decide) (fun _ => ?_) (fun c9 => absurd (by decide) c9)
    refine lv_aload_n hx hb dX10_note_61 rfl (lv_at hl 1 rfl) ?_
    refine va_get (D := (dC, dI)) (ci := 10) (v := .ref xa54) (C := RX10) (T := TX10) (N := 19) hx hb hts hin10 hown hK hP 0 rfl rfl 12 (by decide) (hts (.fieldLink RX10 93 "PathProber" "status" "[I") (List.mem_of_getElem? (i := 4) (by decide +kernel))) (fun _ h9 => h9) rfl dX10_note_62 ?_
    refine lv_iconst (v := 2) hx hb dX10_note_65 (by decide) ?_
    refine lv_dup2_11 hx hb dX10_note_66 rfl rfl ?_
    refine va_iald hx hb hK hP 2 1 rfl rfl (vp_in_nI (n := 2) (by decide) (by decide)) dX10_note_67 ?_
    refine lv_topi (fun z4 e5 => ?_)
    obtain rfl : z4 = (0 : Int32) := e5
    refine lv_iconst (v := 1) hx hb dX10_note_68 (by decide) ?_
    refine lv_iadd hx hb dX10_note_69 ?_
    refine lv_topi (fun z6 e7 => ?_)
    obtain rfl : z6 = (1 : Int32) := e7.trans (by decide)
    refine va_iast hx hb hK hP hD hS 2 1 rfl rfl (vp_in_nI (n := 2) (by decide) (by decide)) dX10_note_70 (fun H locs hP hD hS => ?_)
    have hP : va_P (dC, dI) vwCl [(h0, .inr (10, [.ref xa1, .ref xa3, .ref xa15, .ref xa27, .ref xa28, .ref xa33, .ref xa38, .ref xa41, .ref xa45, .ref xa46, .ref xa47, .ref xa52, .ref xa54, .int 0, .ref xa55, .ref xa60, .ref xa62, .ref xa67, .int (-1)])), (xa3, .inr (2, [.ref xa4, .ref xa5, .ref xa6, .ref xa7, .ref xa8, .ref xa9, .ref xa10, .int 0, .int 0, .int 0, .int 5, .ref xa11, .ref xa12, .ref xa13, .ref xa14])), (xa54, .inl (kI, 3, .inl (upd (fun _ => 0) 2 1))), (xa47, .inr (3, [.ref xa3, .ref xa45, .ref xa48, .ref xa49, .ref xa50, .ref xa51, .int 0, .int (-1), .int 0]))] H := hP
    have hD : va_D A [(h0, .inr (10, [.ref xa1, .ref xa3, .ref xa15, .ref xa27, .ref xa28, .ref xa33, .ref xa38, .ref xa41, .ref xa45, .ref xa46, .ref xa47, .ref xa52, .ref xa54, .int 0, .ref xa55, .ref xa60, .ref xa62, .ref xa67, .int (-1)])), (xa3, .inr (2, [.ref xa4, .ref xa5, .ref xa6, .ref xa7, .ref xa8, .ref xa9, .ref xa10, .int 0, .int 0, .int 0, .int 5, .ref xa11, .ref xa12, .ref xa13, .ref xa14])), (xa54, .inl (kI, 3, .inl (upd (fun _ => 0) 2 1))), (xa47, .inr (3, [.ref xa3, .ref xa45, .ref xa48, .ref xa49, .ref xa50, .ref xa51, .int 0, .int (-1), .int 0]))] := hD
    refine lv_iconst (v := (-1)) hx hb dX10_note_71 (by decide) ?_
    have hP9 := hP.sub (ws' := []) [] rfl
    have hD9 := hD.sub (ws' := []) [] (by decide) rfl
    exact W.iret (v := (-1)) hx hb hr (fun t ht hW => ⟨⟨(-1), (), rfl, rfl, by rw [ht]; exact hP9, hD9⟩, hS.F ht⟩) hS.2.2 dX10_note_72
  · refine lv_aload_n hx hb dX10_note_7 rfl (lv_at hl 0 rfl) ?_
    refine va_get (D := (dC, dI)) (ci := 10) (v := .ref xa3) (C := RX10) (T := TX10) (N := 19) hx hb hts hin10 hown hK hP 0 rfl rfl 1 (by decide) (hts (.fieldLink RX10 19 "PathProber" "told" "LPathProber$Net;") (List.mem_of_getElem? (i := 1) (by decide +kernel))) (fun _ h9 => h9) rfl dX10_note_8 ?_
    refine lv_iload_n hx hb dX10_note_11 rfl (lv_at hl 2 rfl) ?_
    have hPc := hP.sub (ws' := [(xa3, .inr (2, [.ref xa4, .ref xa5, .ref xa6, .ref xa7, .ref xa8, .ref xa9, .ref xa10, .int 0, .int 0, .int 0, .int 5, .ref xa11, .ref xa12, .ref xa13, .ref xa14]))]) [1] rfl
    have hDc := hD.sub (ws' := [(xa3, .inr (2, [.ref xa4, .ref xa5, .ref xa6, .ref xa7, .ref xa8, .ref xa9, .ref xa10, .int 0, .int 0, .int 0, .int 5, .ref xa11, .ref xa12, .ref xa13, .ref xa14]))]) [1] (by decide) rfl
    have hFc := va_free (wc := [(xa3, .inr (2, [.ref xa4, .ref xa5, .ref xa6, .ref xa7, .ref xa8, .ref xa9, .ref xa10, .int 0, .int 0, .int 0, .int 5, .ref xa11, .ref xa12, .ref xa13, .ref xa14]))]) hD hS hA [1] rfl
    refine va_calli (va_runV (As := [.int p1]) (rest := []) ⟨hx, hb, hml, hown, hts⟩ (k2_hasGoal l dC dI kB kI kJ kZ kC kS H.size xa3 xa4 xa5 xa6 xa7 xa8 xa9 xa10 xa11 xa12 xa13 xa14 p1) (cwV 1 hts gX10_note_X2_hasGoal rfl rfl rfl (by decide +kernel) ⟨Nat.le_of_ble_eq_true rfl, Nat.le_of_ble_eq_true rfl⟩) ⟨fun a U g mk q => by obtain ⟨q0, q1, qP, qE, qD⟩ := q; exact ⟨q0, q1, qP, kE_call qE, qD⟩, va_recv hK hP (ci := 2) (q0 := 1) rfl rfl, fun U hU hW => ⟨rfl, by rw [hU], by rw [hU]; exact hPc, kE_warm hW hE, hDc.weaken (fun _ _ _ _ => trivial)⟩⟩ rfl rfl hl.1 rfl (lv_room (Nat.le_of_ble_eq_true rfl)) dX10_note_12 ⟨Nat.le_of_ble_eq_true rfl, Nat.le_of_ble_eq_true rfl⟩) hS (fun q _ h => hFc q h) hFc (fun r8 u t H1 locs ht hvm w9 hB hz1 hk1 hS => ?_)
    obtain ⟨hP1, hD1⟩ := hB
    rw [ht] at hP1
    try dsimp only at w9
    obtain ⟨hP, hD⟩ := va_join (wr := [(h0, .inr (10, [.ref xa1, .ref xa3, .ref xa15, .ref xa27, .ref xa28, .ref xa33, .ref xa38, .ref xa41, .ref xa45, .ref xa46, .ref xa47, .ref xa52, .ref xa54, .int 0, .ref xa55, .ref xa60, .ref xa62, .ref xa67, .int (-1)])), (xa54, .inl (kI, 3, .inl (fun _ => 0))), (xa47, .inr (3, [.ref xa3, .ref xa45, .ref xa48, .ref xa49, .ref xa50, .ref xa51, .int 0, .int (-1), .int 0]))]) (w1 := [(xa3, .inr (2, [.ref xa4, .ref xa5, .ref xa6, .ref xa7, .ref xa8, .ref xa9, .ref xa10, .int 0, .int 0, .int 0, .int 5, .ref xa11, .ref xa12, .ref xa13, .ref xa14]))]) hP hD [1] [0, 2, 3] rfl rfl (by decide) (by decide) hk1 hFc hP1 hD1
    generalize H1 = H at hP hS ⊢
    have hP : va_P (dC, dI) vwCl [(h0, .inr (10, [.ref xa1, .ref xa3, .ref xa15, .ref xa27, .ref xa28, .ref xa33, .ref xa38, .ref xa41, .ref xa45, .ref xa46, .ref xa47, .ref xa52, .ref xa54, .int 0, .ref xa55, .ref xa60, .ref xa62, .ref xa67, .int (-1)])), (xa54, .inl (kI, 3, .inl (fun _ => 0))), (xa47, .inr (3, [.ref xa3, .ref xa45, .ref xa48, .ref xa49, .ref xa50, .ref xa51, .int 0, .int (-1), .int 0])), (xa3, .inr (2, [.ref xa4, .ref xa5, .ref xa6, .ref xa7, .ref xa8, .ref xa9, .ref xa10, .int 0, .int 0, .int 0, .int 5, .ref xa11, .ref xa12, .ref xa13, .ref xa14]))] H := hP
    have hD : va_D A [(h0, .inr (10, [.ref xa1, .ref xa3, .ref xa15, .ref xa27, .ref xa28, .ref xa33, .ref xa38, .ref xa41, .ref xa45, .ref xa46, .ref xa47, .ref xa52, .ref xa54, .int 0, .ref xa55, .ref xa60, .ref xa62, .ref xa67, .int (-1)])), (xa54, .inl (kI, 3, .inl (fun _ => 0))), (xa47, .inr (3, [.ref xa3, .ref xa45, .ref xa48, .ref xa49, .ref xa50, .ref xa51, .int 0, .int (-1), .int 0])), (xa3, .inr (2, [.ref xa4, .ref xa5, .ref xa6, .ref xa7, .ref xa8, .ref xa9, .ref xa10, .int 0, .int 0, .int 0, .int 5, .ref xa11, .ref xa12, .ref xa13, .ref xa14]))] := hD
    refine W.widen (k := 0) (n := 0) (Nat.le_of_ble_eq_true rfl) (Nat.le_of_ble_eq_true rfl) ?_
    subst w9
    refine lv_if_eq (tgt := 41) hx hb dX10_note_15 (by decide) (fun _ => ?_) (fun c9 => absurd (by decide) c9)
    refine lv_iconst (v := 0) hx hb dX10_note_41 (by decide) ?_
    refine lv_istore (lv' := [(5, .int 0), (0, .ref h0), (1, .int p0), (2, .int p1), (3, .int p2), (4, .int p3)]) hx hb dX10_note_42 hl (by decide) rfl (fun ls hl => ?_)
    refine lv_iload hx hb dX10_note_44 (lv_at hl 0 rfl) ?_
    refine lv_if_eq (tgt := 61) hx hb dX10_note_46 (by decide) (fun _ => ?_) (fun c9 => absurd (by decide) c9)
    refine lv_aload_n hx hb dX10_note_61 rfl (lv_at hl 1 rfl) ?_
    refine va_get (D := (dC, dI)) (ci := 10) (v := .ref xa54) (C := RX10) (T := TX10) (N := 19) hx hb hts hin10 hown hK hP 0 rfl rfl 12 (by decide) (hts (.fieldLink RX10 93 "PathProber" "status" "[I") (List.mem_of_getElem? (i := 4) (by decide +kernel))) (fun _ h9 => h9) rfl dX10_note_62 ?_
    refine lv_iconst (v := 2) hx hb dX10_note_65 (by decide) ?_
    refine lv_dup2_11 hx hb dX10_note_66 rfl rfl ?_
    refine va_iald hx hb hK hP 1 1 rfl rfl (vp_in_nI (n := 2) (by decide) (by decide)) dX10_note_67 ?_
    refine lv_topi (fun z10 e11 => ?_)
    obtain rfl : z10 = (0 : Int32) := e11
    refine lv_iconst (v := 1) hx hb dX10_note_68 (by decide) ?_
    refine lv_iadd hx hb dX10_note_69 ?_
    refine lv_topi (fun z12 e13 => ?_)
    obtain rfl : z12 = (1 : Int32) := e13.trans (by decide)
    refine va_iast hx hb hK hP hD hS 1 1 rfl rfl (vp_in_nI (n := 2) (by decide) (by decide)) dX10_note_70 (fun H locs hP hD hS => ?_)
    have hP : va_P (dC, dI) vwCl [(h0, .inr (10, [.ref xa1, .ref xa3, .ref xa15, .ref xa27, .ref xa28, .ref xa33, .ref xa38, .ref xa41, .ref xa45, .ref xa46, .ref xa47, .ref xa52, .ref xa54, .int 0, .ref xa55, .ref xa60, .ref xa62, .ref xa67, .int (-1)])), (xa54, .inl (kI, 3, .inl (upd (fun _ => 0) 2 1))), (xa47, .inr (3, [.ref xa3, .ref xa45, .ref xa48, .ref xa49, .ref xa50, .ref xa51, .int 0, .int (-1), .int 0])), (xa3, .inr (2, [.ref xa4, .ref xa5, .ref xa6, .ref xa7, .ref xa8, .ref xa9, .ref xa10, .int 0, .int 0, .int 0, .int 5, .ref xa11, .ref xa12, .ref xa13, .ref xa14]))] H := hP
    have hD : va_D A [(h0, .inr (10, [.ref xa1, .ref xa3, .ref xa15, .ref xa27, .ref xa28, .ref xa33, .ref xa38, .ref xa41, .ref xa45, .ref xa46, .ref xa47, .ref xa52, .ref xa54, .int 0, .ref xa55, .ref xa60, .ref xa62, .ref xa67, .int (-1)])), (xa54, .inl (kI, 3, .inl (upd (fun _ => 0) 2 1))), (xa47, .inr (3, [.ref xa3, .ref xa45, .ref xa48, .ref xa49, .ref xa50, .ref xa51, .int 0, .int (-1), .int 0])), (xa3, .inr (2, [.ref xa4, .ref xa5, .ref xa6, .ref xa7, .ref xa8, .ref xa9, .ref xa10, .int 0, .int 0, .int 0, .int 5, .ref xa11, .ref xa12, .ref xa13, .ref xa14]))] := hD
    refine lv_iconst (v := (-1)) hx hb dX10_note_71 (by decide) ?_
    have hP9 := hP.sub (ws' := []) [] rfl
    have hD9 := hD.sub (ws' := []) [] (by decide) rfl
    exact W.iret (v := (-1)) hx hb hr (fun t ht hW => ⟨⟨(-1), (), rfl, rfl, by rw [ht]; exact hP9, hD9⟩, hS.F ht⟩) hS.2.2 dX10_note_72
def rm_k10_restore : Room := { frames := 0, cells := 0, slots := 0, locals := 0 }
set_option maxHeartbeats 4000000 in
set_option maxRecDepth 100000 in
theorem k10_restore (l : Launch) (dC : Nat → ClassId) (dI : Nat → Nat → Nat) (kB kI kJ kZ kC kS : ClassId) (sz : Nat) (h0 : Nat) (xa1 : Nat) (xa3 : Nat) (xa15 : Nat) (xa27 : Nat) (xa28 : Nat) (xa33 : Nat) (xa38 : Nat) (xa41 : Nat) (xa45 : Nat) (xa46 : Nat) (xa47 : Nat) (xa52 : Nat) (xa54 : Nat) (xa55 : Nat) (xa60 : Nat) (xa62 : Nat) (xa67 : Nat) : Met l yX10_restore wsX10_restore rm_k10_restore (va_Pc [.ref h0] (fun U => U.heap.size = sz ∧ va_P (dC, dI) vwCl [(h0, .inr (10, [.ref xa1, .ref xa3, .ref xa15, .ref xa27, .ref xa28, .ref xa33, .ref xa38, .ref xa41, .ref xa45, .ref xa46, .ref xa47, .ref xa52, .ref xa54, .int 0, .ref xa55, .ref xa60, .ref xa62, .ref xa67, .int (-1)]))] U.heap ∧ kE dC dI kB kI kJ kZ kC kS U ∧ va_D (fun _ => True) [(h0, .inr (10, [.ref xa1, .ref xa3, .ref xa15, .ref xa27, .ref xa28, .ref xa33, .ref xa38, .ref xa41, .ref xa45, .ref xa46, .ref xa47, .ref xa52, .ref xa54, .int 0, .ref xa55, .ref xa60, .ref xa62, .ref xa67, .int (-1)]))])) (va_Qi (fun (r : Int32) (_ : Unit) => r = 0) (fun _ t => va_P (dC, dI) vwCl [] t.heap ∧ va_D (va_A [(h0, .inr (10, [.ref xa1, .ref xa3, .ref xa15, .ref xa27, .ref xa28, .ref xa33, .ref xa38, .ref xa41, .ref xa45, .ref xa46, .ref xa47, .ref xa52, .ref xa54, .int 0, .ref xa55, .ref xa60, .ref xa62, .ref xa67, .int (-1)]))] sz) []) (va_A [(h0, .inr (10, [.ref xa1, .ref xa3, .ref xa15, .ref xa27, .ref xa28, .ref xa33, .ref xa38, .ref xa41, .ref xa45, .ref xa46, .ref xa47, .ref xa52, .ref xa54, .int 0, .ref xa55, .ref xa60, .ref xa62, .ref xa67, .int (-1)]))] sz)) 0 0 (va_A [(h0, .inr (10, [.ref xa1, .ref xa3, .ref xa15, .ref xa27, .ref xa28, .ref xa33, .ref xa38, .ref xa41, .ref xa45, .ref xa46, .ref xa47, .ref xa52, .ref xa54, .int 0, .ref xa55, .ref xa60, .ref xa62, .ref xa67, .int (-1)]))] sz) := by
  refine Met.ofW (cc := cX10_restore) (maxL := 1) (ret := (some .boolean)) (by decide) rfl ?_
  intro p e s m args0 below meth c s₁ B hml hv
  obtain ⟨hargs, hsz, hP, hE, hD0⟩ := hv
  have hx := B.exec
  have hb := B.bytes
  have hr := B.returns
  have hts := atoms_spec (ws := wsX10_restore) B.pre
  have hown : s.vm.findClass RX10 = some m.cls := findClass_of_methodNamed B.named
  have hlocks := B.notSynchronized
  have hK := hE.1
  have hin10 : ∀ w ∈ wsX100, w ∈ wsX10_restore := fun _ h9 => List.mem_cons_of_mem _ (List.mem_append_left _ (List.mem_append_left _ (List.mem_append_left _ (List.mem_append_right _ h9))))
  have hin0 : ∀ w ∈ wsX00, w ∈ wsX10_restore := fun _ h9 => List.mem_cons_of_mem _ (List.mem_append_left _ (List.mem_append_left _ (List.mem_append_right _ h9)))
  have hin1 : ∀ w ∈ wsX10, w ∈ wsX10_restore := fun _ h9 => List.mem_cons_of_mem _ (List.mem_append_left _ (List.mem_append_right _ h9))
  have hin3 : ∀ w ∈ wsX30, w ∈ wsX10_restore := fun _ h9 => List.mem_cons_of_mem _ (List.mem_append_right _ h9)
  subst hsz
  have hD := hD0.self (sz := s.heap.size)
  generalize hAe : va_A [(h0, .inr (10, [.ref xa1, .ref xa3, .ref xa15, .ref xa27, .ref xa28, .ref xa33, .ref xa38, .ref xa41, .ref xa45, .ref xa46, .ref xa47, .ref xa52, .ref xa54, .int 0, .ref xa55, .ref xa60, .ref xa62, .ref xa67, .int (-1)]))] s.heap.size = A at hD ⊢
  have hA : ∀ q : Nat, s.heap.size ≤ q → A q := fun q h => by rw [← hAe]; exact Or.inr h
  have hS : va_S A s.heap s.heap [] := va_S.rf
  have hP : va_P (dC, dI) vwCl [(h0, .inr (10, [.ref xa1, .ref xa3, .ref xa15, .ref xa27, .ref xa28, .ref xa33, .ref xa38, .ref xa41, .ref xa45, .ref xa46, .ref xa47, .ref xa52, .ref xa54, .int 0, .ref xa55, .ref xa60, .ref xa62, .ref xa67, .int (-1)]))] s.heap := hP
  have hl := lv_entry ([.ref h0]) (n := 1) (Nat.le_of_ble_eq_true rfl)
  have hla : entryFrame m args0 1 = entryFrame m ([.ref h0] : List Value).toArray 1 := by rw [hargs]
  rw [hla, lg_entry_eq]
  generalize (lg_sl ([.ref h0]) ++ List.replicate (1 - (lg_sl ([.ref h0])).length) Slot.unset).toArray = ls at hl ⊢
  have hl : lv_has ls 1 [(0, .ref h0)] := hl
  refine lv_aload_n hx hb dX10_restore_0 rfl (lv_at hl 0 rfl) ?_
  refine va_get (D := (dC, dI)) (ci := 10) (v := .int 0) (C := RX10) (T := TX10) (N := 19) hx hb hts hin10 hown hK hP 0 rfl rfl 13 (by decide) (hts (.fieldLink RX10 97 "PathProber" "imageKept" "Z") (List.mem_of_getElem? (i := 1) (by decide +kernel))) (fun _ h9 => h9) rfl dX10_restore_1 ?_
  refine lv_if_ne (tgt := 9) hx hb dX10_restore_4 (by decide) (fun c9 => absurd (by decide) c9) (fun _ => ?_)
  refine lv_iconst (v := 0) hx hb dX10_restore_7 (by decide) ?_
  have hP9 := hP.sub (ws' := []) [] rfl
  have hD9 := hD.sub (ws' := []) [] (by decide) rfl
  exact W.zret (v := 0) (ty := .boolean) hx hb hr rfl (fun t ht hW => ⟨⟨0, (), rfl, rfl, by rw [ht]; exact hP9, hD9⟩, hS.F ht⟩) hS.2.2 dX10_restore_8
def rm_k10_forget : Room := { frames := 0, cells := 0, slots := 0, locals := 0 }
set_option maxHeartbeats 4000000 in
set_option maxRecDepth 100000 in
theorem k10_forget (l : Launch) (dC : Nat → ClassId) (dI : Nat → Nat → Nat) (kB kI kJ kZ kC kS : ClassId) (sz : Nat) (h0 : Nat) (xa1 : Nat) (xa3 : Nat) (xa15 : Nat) (xa27 : Nat) (xa28 : Nat) (xa33 : Nat) (xa38 : Nat) (xa41 : Nat) (xa45 : Nat) (xa46 : Nat) (xa47 : Nat) (xa52 : Nat) (xa54 : Nat) (xa55 : Nat) (xa60 : Nat) (xa62 : Nat) (xa67 : Nat) (xa48 : Nat) (xa49 : Nat) (xa50 : Nat) (xa51 : Nat) : Met l yX10_forget wsX10_forget rm_k10_forget (va_Pc [.ref h0] (fun U => U.heap.size = sz ∧ va_P (dC, dI) vwCl [(h0, .inr (10, [.ref xa1, .ref xa3, .ref xa15, .ref xa27, .ref xa28, .ref xa33, .ref xa38, .ref xa41, .ref xa45, .ref xa46, .ref xa47, .ref xa52, .ref xa54, .int 0, .ref xa55, .ref xa60, .ref xa62, .ref xa67, .int (-1)])), (xa47, .inr (3, [.ref xa3, .ref xa45, .ref xa48, .ref xa49, .ref xa50, .ref xa51, .int 0, .int (-1), .int 0]))] U.heap ∧ kE dC dI kB kI kJ kZ kC kS U ∧ va_D (fun _ => True) [(h0, .inr (10, [.ref xa1, .ref xa3, .ref xa15, .ref xa27, .ref xa28, .ref xa33, .ref xa38, .ref xa41, .ref xa45, .ref xa46, .ref xa47, .ref xa52, .ref xa54, .int 0, .ref xa55, .ref xa60, .ref xa62, .ref xa67, .int (-1)])), (xa47, .inr (3, [.ref xa3, .ref xa45, .ref xa48, .ref xa49, .ref xa50, .ref xa51, .int 0, .int (-1), .int 0]))])) (va_Qv (fun (_ : Unit) => True) (fun _ t => va_P (dC, dI) vwCl [] t.heap ∧ va_D (va_A [(h0, .inr (10, [.ref xa1, .ref xa3, .ref xa15, .ref xa27, .ref xa28, .ref xa33, .ref xa38, .ref xa41, .ref xa45, .ref xa46, .ref xa47, .ref xa52, .ref xa54, .int 0, .ref xa55, .ref xa60, .ref xa62, .ref xa67, .int (-1)])), (xa47, .inr (3, [.ref xa3, .ref xa45, .ref xa48, .ref xa49, .ref xa50, .ref xa51, .int 0, .int (-1), .int 0]))] sz) []) (va_A [(h0, .inr (10, [.ref xa1, .ref xa3, .ref xa15, .ref xa27, .ref xa28, .ref xa33, .ref xa38, .ref xa41, .ref xa45, .ref xa46, .ref xa47, .ref xa52, .ref xa54, .int 0, .ref xa55, .ref xa60, .ref xa62, .ref xa67, .int (-1)])), (xa47, .inr (3, [.ref xa3, .ref xa45, .ref xa48, .ref xa49, .ref xa50, .ref xa51, .int 0, .int (-1), .int 0]))] sz)) 0 0 (va_A [(h0, .inr (10, [.ref xa1, .ref xa3, .ref xa15, .ref xa27, .ref xa28, .ref xa33, .ref xa38, .ref xa41, .ref xa45, .ref xa46, .ref xa47, .ref xa52, .ref xa54, .int 0, .ref xa55, .ref xa60, .ref xa62, .ref xa67, .int (-1)])), (xa47, .inr (3, [.ref xa3, .ref xa45, .ref xa48, .ref xa49, .ref xa50, .ref xa51, .int 0, .int (-1), .int 0]))] sz) := by
  refine Met.ofW (cc := cX10_forget) (maxL := 1) (ret := none) (by decide) rfl ?_
  intro p e s m args0 below meth c s₁ B hml hv
  obtain ⟨hargs, hsz, hP, hE, hD0⟩ := hv
  have hx := B.exec
  have hb := B.bytes
  have hr := B.returns
  have hts := atoms_spec (ws := wsX10_forget) B.pre
  have hown : s.vm.findClass RX10 = some m.cls := findClass_of_methodNamed B.named
  have hlocks := B.notSynchronized
  have hK := hE.1
  have hin10 : ∀ w ∈ wsX100, w ∈ wsX10_forget := fun _ h9 => List.mem_cons_of_mem _ (List.mem_append_left _ (List.mem_append_right _ h9))
  have hin3 : ∀ w ∈ wsX30, w ∈ wsX10_forget := fun _ h9 => List.mem_cons_of_mem _ (List.mem_append_right _ h9)
  subst hsz
  have hD := hD0.self (sz := s.heap.size)
  generalize hAe : va_A [(h0, .inr (10, [.ref xa1, .ref xa3, .ref xa15, .ref xa27, .ref xa28, .ref xa33, .ref xa38, .ref xa41, .ref xa45, .ref xa46, .ref xa47, .ref xa52, .ref xa54, .int 0, .ref xa55, .ref xa60, .ref xa62, .ref xa67, .int (-1)])), (xa47, .inr (3, [.ref xa3, .ref xa45, .ref xa48, .ref xa49, .ref xa50, .ref xa51, .int 0, .int (-1), .int 0]))] s.heap.size = A at hD ⊢
  have hA : ∀ q : Nat, s.heap.size ≤ q → A q := fun q h => by rw [← hAe]; exact Or.inr h
  have hS : va_S A s.heap s.heap [] := va_S.rf
  have hP : va_P (dC, dI) vwCl [(h0, .inr (10, [.ref xa1, .ref xa3, .ref xa15, .ref xa27, .ref xa28, .ref xa33, .ref xa38, .ref xa41, .ref xa45, .ref xa46, .ref xa47, .ref xa52, .ref xa54, .int 0, .ref xa55, .ref xa60, .ref xa62, .ref xa67, .int (-1)])), (xa47, .inr (3, [.ref xa3, .ref xa45, .ref xa48, .ref xa49, .ref xa50, .ref xa51, .int 0, .int (-1), .int 0]))] s.heap := hP
  have hl := lv_entry ([.ref h0]) (n := 1) (Nat.le_of_ble_eq_true rfl)
  have hla : entryFrame m args0 1 = entryFrame m ([.ref h0] : List Value).toArray 1 := by rw [hargs]
  rw [hla, lg_entry_eq]
  generalize (lg_sl ([.ref h0]) ++ List.replicate (1 - (lg_sl ([.ref h0])).length) Slot.unset).toArray = ls at hl ⊢
  have hl : lv_has ls 1 [(0, .ref h0)] := hl
  refine lv_aload_n hx hb dX10_forget_0 rfl (lv_at hl 0 rfl) ?_
  refine va_get (D := (dC, dI)) (ci := 10) (v := .ref xa47) (C := RX10) (T := TX10) (N := 19) hx hb hts hin10 hown hK hP 0 rfl rfl 10 (by decide) (hts (.fieldLink RX10 82 "PathProber" "notebook" "LPathProber$Notebook;") (List.mem_of_getElem? (i := 1) (by decide +kernel))) (fun _ h9 => h9) rfl dX10_forget_1 ?_
  refine lv_iconst (v := 0) hx hb dX10_forget_4 (by decide) ?_
  refine va_put (D := (dC, dI)) (ci := 3) (v := .int 0) (ty := .int) (C := RX3) (T := TX3) (N := 9) hx hb hts hin3 tyX3 tyX3_ok nmX3 hown hK hP hD hS 1 rfl rfl 6 (by decide) (hts (.fieldLink RX10 158 "PathProber$Notebook" "size" "I") (List.mem_of_getElem? (i := 2) (by decide +kernel))) (fun _ h9 => h9) rfl (by decide +kernel) rfl rfl (Nat.le_of_ble_eq_true rfl) dX10_forget_5 (fun H locs hP hD hS => ?_)
  have hP : va_P (dC, dI) vwCl [(h0, .inr (10, [.ref xa1, .ref xa3, .ref xa15, .ref xa27, .ref xa28, .ref xa33, .ref xa38, .ref xa41, .ref xa45, .ref xa46, .ref xa47, .ref xa52, .ref xa54, .int 0, .ref xa55, .ref xa60, .ref xa62, .ref xa67, .int (-1)])), (xa47, .inr (3, [.ref xa3, .ref xa45, .ref xa48, .ref xa49, .ref xa50, .ref xa51, .int 0, .int (-1), .int 0]))] H := hP
  have hD : va_D A [(h0, .inr (10, [.ref xa1, .ref xa3, .ref xa15, .ref xa27, .ref xa28, .ref xa33, .ref xa38, .ref xa41, .ref xa45, .ref xa46, .ref xa47, .ref xa52, .ref xa54, .int 0, .ref xa55, .ref xa60, .ref xa62, .ref xa67, .int (-1)])), (xa47, .inr (3, [.ref xa3, .ref xa45, .ref xa48, .ref xa49, .ref xa50, .ref xa51, .int 0, .int (-1), .int 0]))] := hD
  have hP9 := hP.sub (ws' := []) [] rfl
  have hD9 := hD.sub (ws' := []) [] (by decide) rfl
  exact W.vret hx hb hr (fun t ht hW => ⟨⟨(), rfl, trivial, by rw [ht]; exact hP9, hD9⟩, hS.F ht⟩) hS.2.2 dX10_forget_8
