def rm_s11_isIn_60 : Room := { frames := 0, cells := 0, slots := 0, locals := 0 }
set_option maxHeartbeats 4000000 in
set_option maxRecDepth 100000 in
theorem s11_isIn_60 (l : Launch) (dC : Nat → ClassId) (dI : Nat → Nat → Nat) (kB kI kJ kZ kC kS : ClassId) (sz : Nat) (p0 : Int32) (hp0 : iv 0 60 p0) : Met l yX11_isIn wsX11_isIn rm_s11_isIn_60 (va_Pc [.int p0, .int 0, .int 60] (fun U => U.heap.size = sz ∧ va_P (dC, dI) vwCl [] U.heap ∧ kE dC dI kB kI kJ kZ kC kS U ∧ va_D (fun _ => True) [])) (va_Qi (fun (r : Int32) (_ : Unit) => iv 1 1 r) (fun _ t => va_P (dC, dI) vwCl [] t.heap ∧ va_D (va_A [] sz) []) (va_A [] sz)) 0 0 (va_A [] sz) := by
  refine Met.ofW (cc := cX11_isIn) (maxL := 3) (ret := (some .boolean)) (by decide) rfl ?_
  intro p e s m args0 below meth c s₁ B hml hv
  obtain ⟨hargs, hsz, hP, hE, hD0⟩ := hv
  have hx := B.exec
  have hb := B.bytes
  have hr := B.returns
  have hts := atoms_spec (ws := wsX11_isIn) B.pre
  have hown : s.vm.findClass RX11 = some m.cls := findClass_of_methodNamed B.named
  have hlocks := B.notSynchronized
  have hK := hE.1
  subst hsz
  have hD := hD0.self (sz := s.heap.size)
  generalize hAe : va_A [] s.heap.size = A at hD ⊢
  have hA : ∀ q : Nat, s.heap.size ≤ q → A q := fun q h => by rw [← hAe]; exact Or.inr h
  have hS : va_S A s.heap s.heap [] := va_S.rf
  have hP : va_P (dC, dI) vwCl [] s.heap := hP
  have hl := lv_entry ([.int p0, .int 0, .int 60]) (n := 3) (Nat.le_of_ble_eq_true rfl)
  have hla : entryFrame m args0 3 = entryFrame m ([.int p0, .int 0, .int 60] : List Value).toArray 3 := by rw [hargs]
  rw [hla, lg_entry_eq]
  generalize (lg_sl ([.int p0, .int 0, .int 60]) ++ List.replicate (3 - (lg_sl ([.int p0, .int 0, .int 60])).length) Slot.unset).toArray = ls at hl ⊢
  have hl : lv_has ls 3 [(0, .int p0), (1, .int 0), (2, .int 60)] := hl
  refine lv_iload_n hx hb dX11_isIn_0 rfl (lv_at hl 0 rfl) ?_
  refine lv_iload_n hx hb dX11_isIn_1 rfl (lv_at hl 1 rfl) ?_
  refine lv_icmp_lt (tgt := 14) hx hb dX11_isIn_2 (by decide) (fun c9 => absurd c9 (iv_nlt hp0 (iv_k (by decide) (by decide) : iv 0 0 0) (by decide))) (fun _ => ?_)
  refine lv_iload_n hx hb dX11_isIn_5 rfl (lv_at hl 0 rfl) ?_
  refine lv_iload_n hx hb dX11_isIn_6 rfl (lv_at hl 2 rfl) ?_
  refine lv_icmp_gt (tgt := 14) hx hb dX11_isIn_7 (by decide) (fun c9 => absurd c9 (iv_nlt (iv_k (by decide) (by decide) : iv 60 60 60) hp0 (by decide))) (fun _ => ?_)
  refine lv_iconst (v := 1) hx hb dX11_isIn_10 (by decide) ?_
  refine lv_goto (tgt := 15) hx hb dX11_isIn_11 (by decide) ?_
  have hP9 := hP.sub (ws' := []) [] rfl
  have hD9 := hD.sub (ws' := []) [] (by decide) rfl
  exact W.zret (v := 1) (ty := .boolean) hx hb hr rfl (fun t ht hW => ⟨⟨1, (), rfl, (iv_k (by decide) (by decide) : iv 1 1 1), by rw [ht]; exact hP9, hD9⟩, hS.F ht⟩) hS.2.2 dX11_isIn_15
def rm_s11_isIn_m1 : Room := { frames := 0, cells := 0, slots := 0, locals := 0 }
set_option maxHeartbeats 4000000 in
set_option maxRecDepth 100000 in
theorem s11_isIn_m1 (l : Launch) (dC : Nat → ClassId) (dI : Nat → Nat → Nat) (kB kI kJ kZ kC kS : ClassId) (sz : Nat)  : Met l yX11_isIn wsX11_isIn rm_s11_isIn_m1 (va_Pc [.int 1, .int 1, .int 5] (fun U => U.heap.size = sz ∧ va_P (dC, dI) vwCl [] U.heap ∧ kE dC dI kB kI kJ kZ kC kS U ∧ va_D (fun _ => True) [])) (va_Qi (fun (r : Int32) (_ : Unit) => iv 1 1 r) (fun _ t => va_P (dC, dI) vwCl [] t.heap ∧ va_D (va_A [] sz) []) (va_A [] sz)) 0 0 (va_A [] sz) := by
  refine Met.ofW (cc := cX11_isIn) (maxL := 3) (ret := (some .boolean)) (by decide) rfl ?_
  intro p e s m args0 below meth c s₁ B hml hv
  obtain ⟨hargs, hsz, hP, hE, hD0⟩ := hv
  have hx := B.exec
  have hb := B.bytes
  have hr := B.returns
  have hts := atoms_spec (ws := wsX11_isIn) B.pre
  have hown : s.vm.findClass RX11 = some m.cls := findClass_of_methodNamed B.named
  have hlocks := B.notSynchronized
  have hK := hE.1
  subst hsz
  have hD := hD0.self (sz := s.heap.size)
  generalize hAe : va_A [] s.heap.size = A at hD ⊢
  have hA : ∀ q : Nat, s.heap.size ≤ q → A q := fun q h => by rw [← hAe]; exact Or.inr h
  have hS : va_S A s.heap s.heap [] := va_S.rf
  have hP : va_P (dC, dI) vwCl [] s.heap := hP
  have hl := lv_entry ([.int 1, .int 1, .int 5]) (n := 3) (Nat.le_of_ble_eq_true rfl)
  have hla : entryFrame m args0 3 = entryFrame m ([.int 1, .int 1, .int 5] : List Value).toArray 3 := by rw [hargs]
  rw [hla, lg_entry_eq]
  generalize (lg_sl ([.int 1, .int 1, .int 5]) ++ List.replicate (3 - (lg_sl ([.int 1, .int 1, .int 5])).length) Slot.unset).toArray = ls at hl ⊢
  have hl : lv_has ls 3 [(0, .int 1), (1, .int 1), (2, .int 5)] := hl
  refine lv_iload_n hx hb dX11_isIn_0 rfl (lv_at hl 0 rfl) ?_
  refine lv_iload_n hx hb dX11_isIn_1 rfl (lv_at hl 1 rfl) ?_
  refine lv_icmp_lt (tgt := 14) hx hb dX11_isIn_2 (by decide) (fun c9 => absurd c9 (by decide)) (fun _ => ?_)
  refine lv_iload_n hx hb dX11_isIn_5 rfl (lv_at hl 0 rfl) ?_
  refine lv_iload_n hx hb dX11_isIn_6 rfl (lv_at hl 2 rfl) ?_
  refine lv_icmp_gt (tgt := 14) hx hb dX11_isIn_7 (by decide) (fun c9 => absurd c9 (by decide)) (fun _ => ?_)
  refine lv_iconst (v := 1) hx hb dX11_isIn_10 (by decide) ?_
  refine lv_goto (tgt := 15) hx hb dX11_isIn_11 (by decide) ?_
  have hP9 := hP.sub (ws' := []) [] rfl
  have hD9 := hD.sub (ws' := []) [] (by decide) rfl
  exact W.zret (v := 1) (ty := .boolean) hx hb hr rfl (fun t ht hW => ⟨⟨1, (), rfl, (iv_k (by decide) (by decide) : iv 1 1 1), by rw [ht]; exact hP9, hD9⟩, hS.F ht⟩) hS.2.2 dX11_isIn_15
def rm_s11_isIn_m2 : Room := { frames := 0, cells := 0, slots := 0, locals := 0 }
set_option maxHeartbeats 4000000 in
set_option maxRecDepth 100000 in
theorem s11_isIn_m2 (l : Launch) (dC : Nat → ClassId) (dI : Nat → Nat → Nat) (kB kI kJ kZ kC kS : ClassId) (sz : Nat)  : Met l yX11_isIn wsX11_isIn rm_s11_isIn_m2 (va_Pc [.int 2, .int 1, .int 5] (fun U => U.heap.size = sz ∧ va_P (dC, dI) vwCl [] U.heap ∧ kE dC dI kB kI kJ kZ kC kS U ∧ va_D (fun _ => True) [])) (va_Qi (fun (r : Int32) (_ : Unit) => iv 1 1 r) (fun _ t => va_P (dC, dI) vwCl [] t.heap ∧ va_D (va_A [] sz) []) (va_A [] sz)) 0 0 (va_A [] sz) := by
  refine Met.ofW (cc := cX11_isIn) (maxL := 3) (ret := (some .boolean)) (by decide) rfl ?_
  intro p e s m args0 below meth c s₁ B hml hv
  obtain ⟨hargs, hsz, hP, hE, hD0⟩ := hv
  have hx := B.exec
  have hb := B.bytes
  have hr := B.returns
  have hts := atoms_spec (ws := wsX11_isIn) B.pre
  have hown : s.vm.findClass RX11 = some m.cls := findClass_of_methodNamed B.named
  have hlocks := B.notSynchronized
  have hK := hE.1
  subst hsz
  have hD := hD0.self (sz := s.heap.size)
  generalize hAe : va_A [] s.heap.size = A at hD ⊢
  have hA : ∀ q : Nat, s.heap.size ≤ q → A q := fun q h => by rw [← hAe]; exact Or.inr h
  have hS : va_S A s.heap s.heap [] := va_S.rf
  have hP : va_P (dC, dI) vwCl [] s.heap := hP
  have hl := lv_entry ([.int 2, .int 1, .int 5]) (n := 3) (Nat.le_of_ble_eq_true rfl)
  have hla : entryFrame m args0 3 = entryFrame m ([.int 2, .int 1, .int 5] : List Value).toArray 3 := by rw [hargs]
  rw [hla, lg_entry_eq]
  generalize (lg_sl ([.int 2, .int 1, .int 5]) ++ List.replicate (3 - (lg_sl ([.int 2, .int 1, .int 5])).length) Slot.unset).toArray = ls at hl ⊢
  have hl : lv_has ls 3 [(0, .int 2), (1, .int 1), (2, .int 5)] := hl
  refine lv_iload_n hx hb dX11_isIn_0 rfl (lv_at hl 0 rfl) ?_
  refine lv_iload_n hx hb dX11_isIn_1 rfl (lv_at hl 1 rfl) ?_
  refine lv_icmp_lt (tgt := 14) hx hb dX11_isIn_2 (by decide) (fun c9 => absurd c9 (by decide)) (fun _ => ?_)
  refine lv_iload_n hx hb dX11_isIn_5 rfl (lv_at hl 0 rfl) ?_
  refine lv_iload_n hx hb dX11_isIn_6 rfl (lv_at hl 2 rfl) ?_
  refine lv_icmp_gt (tgt := 14) hx hb dX11_isIn_7 (by decide) (fun c9 => absurd c9 (by decide)) (fun _ => ?_)
  refine lv_iconst (v := 1) hx hb dX11_isIn_10 (by decide) ?_
  refine lv_goto (tgt := 15) hx hb dX11_isIn_11 (by decide) ?_
  have hP9 := hP.sub (ws' := []) [] rfl
  have hD9 := hD.sub (ws' := []) [] (by decide) rfl
  exact W.zret (v := 1) (ty := .boolean) hx hb hr rfl (fun t ht hW => ⟨⟨1, (), rfl, (iv_k (by decide) (by decide) : iv 1 1 1), by rw [ht]; exact hP9, hD9⟩, hS.F ht⟩) hS.2.2 dX11_isIn_15
def rm_s11_isIn_m3 : Room := { frames := 0, cells := 0, slots := 0, locals := 0 }
set_option maxHeartbeats 4000000 in
set_option maxRecDepth 100000 in
theorem s11_isIn_m3 (l : Launch) (dC : Nat → ClassId) (dI : Nat → Nat → Nat) (kB kI kJ kZ kC kS : ClassId) (sz : Nat)  : Met l yX11_isIn wsX11_isIn rm_s11_isIn_m3 (va_Pc [.int 3, .int 1, .int 5] (fun U => U.heap.size = sz ∧ va_P (dC, dI) vwCl [] U.heap ∧ kE dC dI kB kI kJ kZ kC kS U ∧ va_D (fun _ => True) [])) (va_Qi (fun (r : Int32) (_ : Unit) => iv 1 1 r) (fun _ t => va_P (dC, dI) vwCl [] t.heap ∧ va_D (va_A [] sz) []) (va_A [] sz)) 0 0 (va_A [] sz) := by
  refine Met.ofW (cc := cX11_isIn) (maxL := 3) (ret := (some .boolean)) (by decide) rfl ?_
  intro p e s m args0 below meth c s₁ B hml hv
  obtain ⟨hargs, hsz, hP, hE, hD0⟩ := hv
  have hx := B.exec
  have hb := B.bytes
  have hr := B.returns
  have hts := atoms_spec (ws := wsX11_isIn) B.pre
  have hown : s.vm.findClass RX11 = some m.cls := findClass_of_methodNamed B.named
  have hlocks := B.notSynchronized
  have hK := hE.1
  subst hsz
  have hD := hD0.self (sz := s.heap.size)
  generalize hAe : va_A [] s.heap.size = A at hD ⊢
  have hA : ∀ q : Nat, s.heap.size ≤ q → A q := fun q h => by rw [← hAe]; exact Or.inr h
  have hS : va_S A s.heap s.heap [] := va_S.rf
  have hP : va_P (dC, dI) vwCl [] s.heap := hP
  have hl := lv_entry ([.int 3, .int 1, .int 5]) (n := 3) (Nat.le_of_ble_eq_true rfl)
  have hla : entryFrame m args0 3 = entryFrame m ([.int 3, .int 1, .int 5] : List Value).toArray 3 := by rw [hargs]
  rw [hla, lg_entry_eq]
  generalize (lg_sl ([.int 3, .int 1, .int 5]) ++ List.replicate (3 - (lg_sl ([.int 3, .int 1, .int 5])).length) Slot.unset).toArray = ls at hl ⊢
  have hl : lv_has ls 3 [(0, .int 3), (1, .int 1), (2, .int 5)] := hl
  refine lv_iload_n hx hb dX11_isIn_0 rfl (lv_at hl 0 rfl) ?_
  refine lv_iload_n hx hb dX11_isIn_1 rfl (lv_at hl 1 rfl) ?_
  refine lv_icmp_lt (tgt := 14) hx hb dX11_isIn_2 (by decide) (fun c9 => absurd c9 (by decide)) (fun _ => ?_)
  refine lv_iload_n hx hb dX11_isIn_5 rfl (lv_at hl 0 rfl) ?_
  refine lv_iload_n hx hb dX11_isIn_6 rfl (lv_at hl 2 rfl) ?_
  refine lv_icmp_gt (tgt := 14) hx hb dX11_isIn_7 (by decide) (fun c9 => absurd c9 (by decide)) (fun _ => ?_)
  refine lv_iconst (v := 1) hx hb dX11_isIn_10 (by decide) ?_
  refine lv_goto (tgt := 15) hx hb dX11_isIn_11 (by decide) ?_
  have hP9 := hP.sub (ws' := []) [] rfl
  have hD9 := hD.sub (ws' := []) [] (by decide) rfl
  exact W.zret (v := 1) (ty := .boolean) hx hb hr rfl (fun t ht hW => ⟨⟨1, (), rfl, (iv_k (by decide) (by decide) : iv 1 1 1), by rw [ht]; exact hP9, hD9⟩, hS.F ht⟩) hS.2.2 dX11_isIn_15
def rm_s11_isIn_m4 : Room := { frames := 0, cells := 0, slots := 0, locals := 0 }
set_option maxHeartbeats 4000000 in
set_option maxRecDepth 100000 in
theorem s11_isIn_m4 (l : Launch) (dC : Nat → ClassId) (dI : Nat → Nat → Nat) (kB kI kJ kZ kC kS : ClassId) (sz : Nat)  : Met l yX11_isIn wsX11_isIn rm_s11_isIn_m4 (va_Pc [.int 4, .int 1, .int 5] (fun U => U.heap.size = sz ∧ va_P (dC, dI) vwCl [] U.heap ∧ kE dC dI kB kI kJ kZ kC kS U ∧ va_D (fun _ => True) [])) (va_Qi (fun (r : Int32) (_ : Unit) => iv 1 1 r) (fun _ t => va_P (dC, dI) vwCl [] t.heap ∧ va_D (va_A [] sz) []) (va_A [] sz)) 0 0 (va_A [] sz) := by
  refine Met.ofW (cc := cX11_isIn) (maxL := 3) (ret := (some .boolean)) (by decide) rfl ?_
  intro p e s m args0 below meth c s₁ B hml hv
  obtain ⟨hargs, hsz, hP, hE, hD0⟩ := hv
  have hx := B.exec
  have hb := B.bytes
  have hr := B.returns
  have hts := atoms_spec (ws := wsX11_isIn) B.pre
  have hown : s.vm.findClass RX11 = some m.cls := findClass_of_methodNamed B.named
  have hlocks := B.notSynchronized
  have hK := hE.1
  subst hsz
  have hD := hD0.self (sz := s.heap.size)
  generalize hAe : va_A [] s.heap.size = A at hD ⊢
  have hA : ∀ q : Nat, s.heap.size ≤ q → A q := fun q h => by rw [← hAe]; exact Or.inr h
  have hS : va_S A s.heap s.heap [] := va_S.rf
  have hP : va_P (dC, dI) vwCl [] s.heap := hP
  have hl := lv_entry ([.int 4, .int 1, .int 5]) (n := 3) (Nat.le_of_ble_eq_true rfl)
  have hla : entryFrame m args0 3 = entryFrame m ([.int 4, .int 1, .int 5] : List Value).toArray 3 := by rw [hargs]
  rw [hla, lg_entry_eq]
  generalize (lg_sl ([.int 4, .int 1, .int 5]) ++ List.replicate (3 - (lg_sl ([.int 4, .int 1, .int 5])).length) Slot.unset).toArray = ls at hl ⊢
  have hl : lv_has ls 3 [(0, .int 4), (1, .int 1), (2, .int 5)] := hl
  refine lv_iload_n hx hb dX11_isIn_0 rfl (lv_at hl 0 rfl) ?_
  refine lv_iload_n hx hb dX11_isIn_1 rfl (lv_at hl 1 rfl) ?_
  refine lv_icmp_lt (tgt := 14) hx hb dX11_isIn_2 (by decide) (fun c9 => absurd c9 (by decide)) (fun _ => ?_)
  refine lv_iload_n hx hb dX11_isIn_5 rfl (lv_at hl 0 rfl) ?_
  refine lv_iload_n hx hb dX11_isIn_6 rfl (lv_at hl 2 rfl) ?_
  refine lv_icmp_gt (tgt := 14) hx hb dX11_isIn_7 (by decide) (fun c9 => absurd c9 (by decide)) (fun _ => ?_)
  refine lv_iconst (v := 1) hx hb dX11_isIn_10 (by decide) ?_
  refine lv_goto (tgt := 15) hx hb dX11_isIn_11 (by decide) ?_
  have hP9 := hP.sub (ws' := []) [] rfl
  have hD9 := hD.sub (ws' := []) [] (by decide) rfl
  exact W.zret (v := 1) (ty := .boolean) hx hb hr rfl (fun t ht hW => ⟨⟨1, (), rfl, (iv_k (by decide) (by decide) : iv 1 1 1), by rw [ht]; exact hP9, hD9⟩, hS.F ht⟩) hS.2.2 dX11_isIn_15
def rm_s11_isIn_m5 : Room := { frames := 0, cells := 0, slots := 0, locals := 0 }
set_option maxHeartbeats 4000000 in
set_option maxRecDepth 100000 in
theorem s11_isIn_m5 (l : Launch) (dC : Nat → ClassId) (dI : Nat → Nat → Nat) (kB kI kJ kZ kC kS : ClassId) (sz : Nat)  : Met l yX11_isIn wsX11_isIn rm_s11_isIn_m5 (va_Pc [.int 5, .int 1, .int 5] (fun U => U.heap.size = sz ∧ va_P (dC, dI) vwCl [] U.heap ∧ kE dC dI kB kI kJ kZ kC kS U ∧ va_D (fun _ => True) [])) (va_Qi (fun (r : Int32) (_ : Unit) => iv 1 1 r) (fun _ t => va_P (dC, dI) vwCl [] t.heap ∧ va_D (va_A [] sz) []) (va_A [] sz)) 0 0 (va_A [] sz) := by
  refine Met.ofW (cc := cX11_isIn) (maxL := 3) (ret := (some .boolean)) (by decide) rfl ?_
  intro p e s m args0 below meth c s₁ B hml hv
  obtain ⟨hargs, hsz, hP, hE, hD0⟩ := hv
  have hx := B.exec
  have hb := B.bytes
  have hr := B.returns
  have hts := atoms_spec (ws := wsX11_isIn) B.pre
  have hown : s.vm.findClass RX11 = some m.cls := findClass_of_methodNamed B.named
  have hlocks := B.notSynchronized
  have hK := hE.1
  subst hsz
  have hD := hD0.self (sz := s.heap.size)
  generalize hAe : va_A [] s.heap.size = A at hD ⊢
  have hA : ∀ q : Nat, s.heap.size ≤ q → A q := fun q h => by rw [← hAe]; exact Or.inr h
  have hS : va_S A s.heap s.heap [] := va_S.rf
  have hP : va_P (dC, dI) vwCl [] s.heap := hP
  have hl := lv_entry ([.int 5, .int 1, .int 5]) (n := 3) (Nat.le_of_ble_eq_true rfl)
  have hla : entryFrame m args0 3 = entryFrame m ([.int 5, .int 1, .int 5] : List Value).toArray 3 := by rw [hargs]
  rw [hla, lg_entry_eq]
  generalize (lg_sl ([.int 5, .int 1, .int 5]) ++ List.replicate (3 - (lg_sl ([.int 5, .int 1, .int 5])).length) Slot.unset).toArray = ls at hl ⊢
  have hl : lv_has ls 3 [(0, .int 5), (1, .int 1), (2, .int 5)] := hl
  refine lv_iload_n hx hb dX11_isIn_0 rfl (lv_at hl 0 rfl) ?_
  refine lv_iload_n hx hb dX11_isIn_1 rfl (lv_at hl 1 rfl) ?_
  refine lv_icmp_lt (tgt := 14) hx hb dX11_isIn_2 (by decide) (fun c9 => absurd c9 (by decide)) (fun _ => ?_)
  refine lv_iload_n hx hb dX11_isIn_5 rfl (lv_at hl 0 rfl) ?_
  refine lv_iload_n hx hb dX11_isIn_6 rfl (lv_at hl 2 rfl) ?_
  refine lv_icmp_gt (tgt := 14) hx hb dX11_isIn_7 (by decide) (fun c9 => absurd c9 (by decide)) (fun _ => ?_)
  refine lv_iconst (v := 1) hx hb dX11_isIn_10 (by decide) ?_
  refine lv_goto (tgt := 15) hx hb dX11_isIn_11 (by decide) ?_
  have hP9 := hP.sub (ws' := []) [] rfl
  have hD9 := hD.sub (ws' := []) [] (by decide) rfl
  exact W.zret (v := 1) (ty := .boolean) hx hb hr rfl (fun t ht hW => ⟨⟨1, (), rfl, (iv_k (by decide) (by decide) : iv 1 1 1), by rw [ht]; exact hP9, hD9⟩, hS.F ht⟩) hS.2.2 dX11_isIn_15
def rm_s10_missing_1 : Room := { frames := 2, cells := 0, slots := 0, locals := 47 }
set_option maxHeartbeats 4000000 in
set_option maxRecDepth 100000 in
theorem s10_missing_1 (l : Launch) (dC : Nat → ClassId) (dI : Nat → Nat → Nat) (kB kI kJ kZ kC kS : ClassId) (sz : Nat) (op : Nat) (ot : Nat) (on : Nat) (dn : Nat) (rd : Nat) (oc : Nat) (d : Nat) (o : Nat) (si : Nat) (w : Nat) (se : Nat) (nb : Nat) (hi : Nat) (p_status : Nat) (oe : Nat) (ih : Nat) (mb : Nat) (p_imageStatus : Nat) (x_p : Nat → Int32) (o_met : Nat) (o_enough : Nat) (x_o : Nat → Int32) (f_o_met : Nat → Int64) (k : Nat) (hk : k ≤ 60) : Met l yX10_missing wsX10_missing rm_s10_missing_1 (va_Pc [.ref op, .int (nI k), .int 1] (fun U => U.heap.size = sz ∧ va_P (dC, dI) vwCl [(op, .inr (10, oX10 ot on dn rd oc d o si w se nb hi p_status oe ih mb p_imageStatus x_p)), (o, .inr (4, oX4 o_met o_enough x_o)), (o_met, .inl (kJ, 23, .inr (.inl f_o_met)))] U.heap ∧ kE dC dI kB kI kJ kZ kC kS U ∧ va_D (fun _ => True) [(op, .inr (10, oX10 ot on dn rd oc d o si w se nb hi p_status oe ih mb p_imageStatus x_p)), (o, .inr (4, oX4 o_met o_enough x_o)), (o_met, .inl (kJ, 23, .inr (.inl f_o_met)))])) (va_Ql (fun (r : Int64) (_ : Unit) => r = 1000000000000 - kv1 k 1) (fun _ t => ∃ (f_o_met' : Nat → Int64), va_P (dC, dI) vwCl [(op, .inr (10, oX10 ot on dn rd oc d o si w se nb hi p_status oe ih mb p_imageStatus x_p)), (o, .inr (4, oX4 o_met o_enough x_o)), (o_met, .inl (kJ, 23, .inr (.inl f_o_met')))] t.heap ∧ va_D (va_A [(op, .inr (10, oX10 ot on dn rd oc d o si w se nb hi p_status oe ih mb p_imageStatus x_p)), (o, .inr (4, oX4 o_met o_enough x_o)), (o_met, .inl (kJ, 23, .inr (.inl f_o_met)))] sz) [(op, .inr (10, oX10 ot on dn rd oc d o si w se nb hi p_status oe ih mb p_imageStatus x_p)), (o, .inr (4, oX4 o_met o_enough x_o)), (o_met, .inl (kJ, 23, .inr (.inl f_o_met')))]) (va_A [(op, .inr (10, oX10 ot on dn rd oc d o si w se nb hi p_status oe ih mb p_imageStatus x_p)), (o, .inr (4, oX4 o_met o_enough x_o)), (o_met, .inl (kJ, 23, .inr (.inl f_o_met)))] sz)) 0 0 (va_A [(op, .inr (10, oX10 ot on dn rd oc d o si w se nb hi p_status oe ih mb p_imageStatus x_p)), (o, .inr (4, oX4 o_met o_enough x_o)), (o_met, .inl (kJ, 23, .inr (.inl f_o_met)))] sz) := by
  refine Met.ofW (cc := cX10_missing) (maxL := 3) (ret := (some .long)) (by decide) rfl ?_
  intro p e s m args0 below meth c s₁ B hml hv
  obtain ⟨hargs, hsz, hP, hE, hD0⟩ := hv
  have hx := B.exec
  have hb := B.bytes
  have hr := B.returns
  have hts := atoms_spec (ws := wsX10_missing) B.pre
  have hown : s.vm.findClass RX10 = some m.cls := findClass_of_methodNamed B.named
  have hlocks := B.notSynchronized
  have hK := hE.1
  have hin10 : ∀ w ∈ wsX100, w ∈ wsX10_missing := fun _ h9 => List.mem_cons_of_mem _ (List.mem_append_left _ (List.mem_append_left _ (List.mem_append_right _ h9)))
  have hin4 : ∀ w ∈ wsX40, w ∈ wsX10_missing := fun _ h9 => List.mem_cons_of_mem _ (List.mem_append_left _ (List.mem_append_right _ h9))
  have hw_0 := hts (.fieldLink RX10 48 "PathProber" "odds" "LPathProber$Odds;") (List.mem_of_getElem? (i := 3) (by decide +kernel))
  subst hsz
  have hD := hD0.self (sz := s.heap.size)
  generalize hAe : va_A [(op, .inr (10, oX10 ot on dn rd oc d o si w se nb hi p_status oe ih mb p_imageStatus x_p)), (o, .inr (4, oX4 o_met o_enough x_o)), (o_met, .inl (kJ, 23, .inr (.inl f_o_met)))] s.heap.size = A at hD ⊢
  have hA : ∀ q : Nat, s.heap.size ≤ q → A q := fun q h => by rw [← hAe]; exact Or.inr h
  have hS : va_S A s.heap s.heap [] := va_S.rf
  have hP : va_P (dC, dI) vwCl [(op, .inr (10, oX10 ot on dn rd oc d o si w se nb hi p_status oe ih mb p_imageStatus x_p)), (o, .inr (4, oX4 o_met o_enough x_o)), (o_met, .inl (kJ, 23, .inr (.inl f_o_met)))] s.heap := hP
  have hl := lv_entry ([.ref op, .int (nI k), .int 1]) (n := 3) (Nat.le_of_ble_eq_true rfl)
  have hla : entryFrame m args0 3 = entryFrame m ([.ref op, .int (nI k), .int 1] : List Value).toArray 3 := by rw [hargs]
  rw [hla, lg_entry_eq]
  generalize (lg_sl ([.ref op, .int (nI k), .int 1]) ++ List.replicate (3 - (lg_sl ([.ref op, .int (nI k), .int 1])).length) Slot.unset).toArray = ls at hl ⊢
  have hl : lv_has ls 3 [(0, .ref op), (1, .int (nI k)), (2, .int 1)] := hl
  have hkv : iv 0 60 (nI k) := iv_nIv (by omega) (by omega) (by omega)
  refine lv_iload_n hx hb dX10_missing_0 rfl (lv_at hl 1 rfl) ?_
  refine lv_if_lt (tgt := 20) hx hb dX10_missing_1 (by decide) (fun c9 => absurd c9 (iv_nlt hkv (iv_k (by decide) (by decide) : iv 0 0 0) (by decide))) (fun _ => ?_)
  refine lv_iload_n hx hb dX10_missing_4 rfl (lv_at hl 1 rfl) ?_
  refine lv_bipush (v := 60) hx hb dX10_missing_5 (by decide) ?_
  refine lv_icmp_gt (tgt := 20) hx hb dX10_missing_7 (by decide) (fun c9 => absurd c9 (iv_nlt (iv_k (by decide) (by decide) : iv 60 60 60) hkv (by decide))) (fun _ => ?_)
  refine lv_iload_n hx hb dX10_missing_10 rfl (lv_at hl 2 rfl) ?_
  refine lv_iconst (v := 1) hx hb dX10_missing_11 (by decide) ?_
  refine lv_icmp_lt (tgt := 20) hx hb dX10_missing_12 (by decide) (fun c9 => absurd c9 (by decide)) (fun _ => ?_)
  refine lv_iload_n hx hb dX10_missing_15 rfl (lv_at hl 2 rfl) ?_
  refine lv_iconst (v := 5) hx hb dX10_missing_16 (by decide) ?_
  refine lv_icmp_le (tgt := 31) hx hb dX10_missing_17 (by decide) (fun _ => ?_) (fun c9 => absurd (by decide) c9)
  refine lv_aload_n hx hb dX10_missing_31 rfl (lv_at hl 0 rfl) ?_
  refine va_get (D := (dC, dI)) (ci := 10) (v := .ref o) (C := RX10) (T := TX10) (N := 19) hx hb hts hin10 hown hK hP 0 rfl rfl 6 (by decide) hw_0 (fun _ h9 => h9) rfl dX10_missing_32 ?_
  refine lv_iload_n hx hb dX10_missing_35 rfl (lv_at hl 1 rfl) ?_
  refine lv_iload_n hx hb dX10_missing_36 rfl (lv_at hl 2 rfl) ?_
  have hPc := hP.sub (ws' := [(o, .inr (4, oX4 o_met o_enough x_o)), (o_met, .inl (kJ, 23, .inr (.inl f_o_met)))]) [1, 2] rfl
  have hDc := hD.sub (ws' := [(o, .inr (4, oX4 o_met o_enough x_o)), (o_met, .inl (kJ, 23, .inr (.inl f_o_met)))]) [1, 2] (by decide) rfl
  have hFc := va_free (wc := [(o, .inr (4, oX4 o_met o_enough x_o)), (o_met, .inl (kJ, 23, .inr (.inl f_o_met)))]) hD hS hA [1, 2] rfl
  refine va_calll (va_runV (As := [.int (nI k), .int 1]) (rest := []) ⟨hx, hb, hml, hown, hts⟩ (e4_missed_1 l dC dI kB kI kJ kZ kC kS s.heap.size o o_met o_enough x_o k f_o_met (hk)) (cwV 2 hts gX10_missing_X4_missed rfl rfl rfl (by decide +kernel) ⟨Nat.le_of_ble_eq_true rfl, Nat.le_of_ble_eq_true rfl⟩) ⟨fun a U g mk q => by obtain ⟨q0, q1, qP, qE, qD⟩ := q; exact ⟨q0, q1, qP, kE_call qE, qD⟩, va_recv hK hP (ci := 4) (q0 := 1) rfl rfl, fun U hU hW => ⟨rfl, by rw [hU], by rw [hU]; exact hPc, kE_warm hW hE, hDc.weaken (fun _ _ _ _ => trivial)⟩⟩ rfl rfl hl.1 rfl (lv_room (Nat.le_of_ble_eq_true rfl)) dX10_missing_37 ⟨Nat.le_of_ble_eq_true rfl, Nat.le_of_ble_eq_true rfl⟩) hS (fun q _ h => hFc q h) hFc (fun r1 u t H1 locs ht hvm w2 hB hz1 hk1 hS => ?_)
  obtain ⟨f3, hP1, hD1⟩ := hB
  rw [ht] at hP1
  try dsimp only at w2
  obtain ⟨hP, hD⟩ := va_join (wr := [(op, .inr (10, oX10 ot on dn rd oc d o si w se nb hi p_status oe ih mb p_imageStatus x_p))]) (w1 := [(o, .inr (4, oX4 o_met o_enough x_o)), (o_met, .inl (kJ, 23, .inr (.inl f3)))]) hP hD [1, 2] [0] rfl rfl (by decide) (by decide) hk1 hFc hP1 hD1
  generalize H1 = H at hP hS ⊢
  have hP : va_P (dC, dI) vwCl [(op, .inr (10, oX10 ot on dn rd oc d o si w se nb hi p_status oe ih mb p_imageStatus x_p)), (o, .inr (4, oX4 o_met o_enough x_o)), (o_met, .inl (kJ, 23, .inr (.inl f3)))] H := hP
  have hD : va_D A [(op, .inr (10, oX10 ot on dn rd oc d o si w se nb hi p_status oe ih mb p_imageStatus x_p)), (o, .inr (4, oX4 o_met o_enough x_o)), (o_met, .inl (kJ, 23, .inr (.inl f3)))] := hD
  refine W.widen (k := 0) (n := 0) (Nat.le_of_ble_eq_true rfl) (Nat.le_of_ble_eq_true rfl) ?_
  subst w2
  have hP9 := hP.sub (ws' := [(op, .inr (10, oX10 ot on dn rd oc d o si w se nb hi p_status oe ih mb p_imageStatus x_p)), (o, .inr (4, oX4 o_met o_enough x_o)), (o_met, .inl (kJ, 23, .inr (.inl f3)))]) [0, 1, 2] rfl
  have hD9 := hD.sub (ws' := [(op, .inr (10, oX10 ot on dn rd oc d o si w se nb hi p_status oe ih mb p_imageStatus x_p)), (o, .inr (4, oX4 o_met o_enough x_o)), (o_met, .inl (kJ, 23, .inr (.inl f3)))]) [0, 1, 2] (by decide) rfl
  exact W.lret (v := 1000000000000 - kv1 k 1) hx hb hr (fun t ht hW => ⟨⟨1000000000000 - kv1 k 1, (), rfl, rfl, f3, by rw [ht]; exact hP9, hD9⟩, hS.F ht⟩) hS.2.2 dX10_missing_40
def rm_sL_missing_1 : Room := { frames := 3, cells := 0, slots := 0, locals := 69 }
set_option maxHeartbeats 4000000 in
set_option maxRecDepth 100000 in
theorem sL_missing_1 (l : Launch) (hst : l.stackTraces = false) (dC : Nat → ClassId) (dI : Nat → Nat → Nat) (kB kI kJ kZ kC kS : ClassId) (sz : Nat) (op : Nat) (ot : Nat) (on : Nat) (dn : Nat) (rd : Nat) (oc : Nat) (d : Nat) (o : Nat) (si : Nat) (w : Nat) (se : Nat) (nb : Nat) (hi : Nat) (p_status : Nat) (oe : Nat) (ih : Nat) (mb : Nat) (p_imageStatus : Nat) (x_p : Nat → Int32) (o_met : Nat) (o_enough : Nat) (x_o : Nat → Int32) (f_o_met : Nat → Int64) (k : Nat) (ou : Nat) (fo : Nat → Int64) (hk : k ≤ 60) : Met l yL_missing wsL_missing rm_sL_missing_1 (va_Pc [.ref op, .int (nI k), .int 1, .ref ou] (fun U => U.heap.size = sz ∧ va_P (dC, dI) vwCl [(op, .inr (10, oX10 ot on dn rd oc d o si w se nb hi p_status oe ih mb p_imageStatus x_p)), (o, .inr (4, oX4 o_met o_enough x_o)), (o_met, .inl (kJ, 23, .inr (.inl f_o_met))), (ou, .inl (kJ, 1, .inr (.inl fo)))] U.heap ∧ kE dC dI kB kI kJ kZ kC kS U ∧ va_D (fun _ => True) [(op, .inr (10, oX10 ot on dn rd oc d o si w se nb hi p_status oe ih mb p_imageStatus x_p)), (o, .inr (4, oX4 o_met o_enough x_o)), (o_met, .inl (kJ, 23, .inr (.inl f_o_met))), (ou, .inl (kJ, 1, .inr (.inl fo)))] ∧ kX U ∧ kT (va_A [(op, .inr (10, oX10 ot on dn rd oc d o si w se nb hi p_status oe ih mb p_imageStatus x_p)), (o, .inr (4, oX4 o_met o_enough x_o)), (o_met, .inl (kJ, 23, .inr (.inl f_o_met))), (ou, .inl (kJ, 1, .inr (.inl fo)))] sz) U)) (va_Qi (fun (r : Int32) (_ : Unit) => r = 0) (fun _ t => ∃ (f_o_met' : Nat → Int64) (fo' : Nat → Int64), (fo' 0 = 1000000000000 - kv1 k 1) ∧ va_P (dC, dI) vwCl [(op, .inr (10, oX10 ot on dn rd oc d o si w se nb hi p_status oe ih mb p_imageStatus x_p)), (o, .inr (4, oX4 o_met o_enough x_o)), (o_met, .inl (kJ, 23, .inr (.inl f_o_met'))), (ou, .inl (kJ, 1, .inr (.inl fo')))] t.heap ∧ va_D (va_A [(op, .inr (10, oX10 ot on dn rd oc d o si w se nb hi p_status oe ih mb p_imageStatus x_p)), (o, .inr (4, oX4 o_met o_enough x_o)), (o_met, .inl (kJ, 23, .inr (.inl f_o_met))), (ou, .inl (kJ, 1, .inr (.inl fo)))] sz) [(op, .inr (10, oX10 ot on dn rd oc d o si w se nb hi p_status oe ih mb p_imageStatus x_p)), (o, .inr (4, oX4 o_met o_enough x_o)), (o_met, .inl (kJ, 23, .inr (.inl f_o_met'))), (ou, .inl (kJ, 1, .inr (.inl fo')))]) (va_A [(op, .inr (10, oX10 ot on dn rd oc d o si w se nb hi p_status oe ih mb p_imageStatus x_p)), (o, .inr (4, oX4 o_met o_enough x_o)), (o_met, .inl (kJ, 23, .inr (.inl f_o_met))), (ou, .inl (kJ, 1, .inr (.inl fo)))] sz)) 0 0 (va_A [(op, .inr (10, oX10 ot on dn rd oc d o si w se nb hi p_status oe ih mb p_imageStatus x_p)), (o, .inr (4, oX4 o_met o_enough x_o)), (o_met, .inl (kJ, 23, .inr (.inl f_o_met))), (ou, .inl (kJ, 1, .inr (.inl fo)))] sz) := by
  refine va_MetW (cc := cL_missing) (maxL := 5) (ret := (some .int)) (by decide) rfl ?_
  intro p e s m args0 below meth c s₁ B hml hv
  obtain ⟨hargs, hsz, hP, hE, hD0, hXs, hT⟩ := hv
  have hx := B.exec
  have hb := B.bytes
  have hr := B.returns
  have hts := atoms_spec (ws := wsL_missing) B.pre
  have hown : s.vm.findClass RL = some m.cls := findClass_of_methodNamed B.named
  have hlocks := B.notSynchronized
  have hK := hE.1
  have hin10 : ∀ w ∈ wsX100, w ∈ wsL_missing := fun _ h9 => List.mem_cons_of_mem _ (List.mem_append_left _ (List.mem_append_left _ (List.mem_append_right _ h9)))
  have hin4 : ∀ w ∈ wsX40, w ∈ wsL_missing := fun _ h9 => List.mem_cons_of_mem _ (List.mem_append_left _ (List.mem_append_right _ h9))
  subst hsz
  have hD := hD0.self (sz := s.heap.size)
  generalize hAe : va_A [(op, .inr (10, oX10 ot on dn rd oc d o si w se nb hi p_status oe ih mb p_imageStatus x_p)), (o, .inr (4, oX4 o_met o_enough x_o)), (o_met, .inl (kJ, 23, .inr (.inl f_o_met))), (ou, .inl (kJ, 1, .inr (.inl fo)))] s.heap.size = A at hD hT ⊢
  have hA : ∀ q : Nat, s.heap.size ≤ q → A q := fun q h => by rw [← hAe]; exact Or.inr h
  have hS : va_S A s.heap s.heap [] := va_S.rf
  have hP : va_P (dC, dI) vwCl [(op, .inr (10, oX10 ot on dn rd oc d o si w se nb hi p_status oe ih mb p_imageStatus x_p)), (o, .inr (4, oX4 o_met o_enough x_o)), (o_met, .inl (kJ, 23, .inr (.inl f_o_met))), (ou, .inl (kJ, 1, .inr (.inl fo)))] s.heap := hP
  have hl := lv_entry ([.ref op, .int (nI k), .int 1, .ref ou]) (n := 5) (Nat.le_of_ble_eq_true rfl)
  have hla : entryFrame m args0 5 = entryFrame m ([.ref op, .int (nI k), .int 1, .ref ou] : List Value).toArray 5 := by rw [hargs]
  rw [hla, lg_entry_eq]
  generalize (lg_sl ([.ref op, .int (nI k), .int 1, .ref ou]) ++ List.replicate (5 - (lg_sl ([.ref op, .int (nI k), .int 1, .ref ou])).length) Slot.unset).toArray = ls at hl ⊢
  have hl : lv_has ls 5 [(0, .ref op), (1, .int (nI k)), (2, .int 1), (3, .ref ou)] := hl
  have hkv : iv 0 60 (nI k) := iv_nIv (by omega) (by omega) (by omega)
  refine lv_aload_n hx hb dL_missing_0 rfl (lv_at hl 3 rfl) ?_
  refine lv_iconst (v := 0) hx hb dL_missing_1 (by decide) ?_
  refine lv_aload_n hx hb dL_missing_2 rfl (lv_at hl 0 rfl) ?_
  refine lv_iload_n hx hb dL_missing_3 rfl (lv_at hl 1 rfl) ?_
  refine lv_iload_n hx hb dL_missing_4 rfl (lv_at hl 2 rfl) ?_
  have hPc := hP.sub (ws' := [(op, .inr (10, oX10 ot on dn rd oc d o si w se nb hi p_status oe ih mb p_imageStatus x_p)), (o, .inr (4, oX4 o_met o_enough x_o)), (o_met, .inl (kJ, 23, .inr (.inl f_o_met)))]) [0, 1, 2] rfl
  have hDc := hD.sub (ws' := [(op, .inr (10, oX10 ot on dn rd oc d o si w se nb hi p_status oe ih mb p_imageStatus x_p)), (o, .inr (4, oX4 o_met o_enough x_o)), (o_met, .inl (kJ, 23, .inr (.inl f_o_met)))]) [0, 1, 2] (by decide) rfl
  have hFc := va_free (wc := [(op, .inr (10, oX10 ot on dn rd oc d o si w se nb hi p_status oe ih mb p_imageStatus x_p)), (o, .inr (4, oX4 o_met o_enough x_o)), (o_met, .inl (kJ, 23, .inr (.inl f_o_met)))]) hD hS hA [0, 1, 2] rfl
  refine va_calll (va_runV (As := [.int (nI k), .int 1]) (rest := [.int 0, .ref ou]) ⟨hx, hb, hml, hown, hts⟩ (s10_missing_1 l dC dI kB kI kJ kZ kC kS s.heap.size op ot on dn rd oc d o si w se nb hi p_status oe ih mb p_imageStatus x_p o_met o_enough x_o f_o_met k (hk)) (cwV 2 hts gL_missing_X10_missing rfl rfl rfl (by decide +kernel) ⟨Nat.le_of_ble_eq_true rfl, Nat.le_of_ble_eq_true rfl⟩) ⟨fun a U g mk q => by obtain ⟨q0, q1, qP, qE, qD⟩ := q; exact ⟨q0, q1, qP, kE_call qE, qD⟩, va_recv hK hP (ci := 10) (q0 := 0) rfl rfl, fun U hU hW => ⟨rfl, by rw [hU], by rw [hU]; exact hPc, kE_warm hW hE, hDc.weaken (fun _ _ _ _ => trivial)⟩⟩ rfl rfl hl.1 rfl (lv_room (Nat.le_of_ble_eq_true rfl)) dL_missing_5 ⟨Nat.le_of_ble_eq_true rfl, Nat.le_of_ble_eq_true rfl⟩) hS (fun q _ h => hFc q h) hFc (fun r1 u t H1 locs ht hvm w2 hB hz1 hk1 hS => ?_)
  obtain ⟨f3, hP1, hD1⟩ := hB
  rw [ht] at hP1
  try dsimp only at w2
  obtain ⟨hP, hD⟩ := va_join (wr := [(ou, .inl (kJ, 1, .inr (.inl fo)))]) (w1 := [(op, .inr (10, oX10 ot on dn rd oc d o si w se nb hi p_status oe ih mb p_imageStatus x_p)), (o, .inr (4, oX4 o_met o_enough x_o)), (o_met, .inl (kJ, 23, .inr (.inl f3)))]) hP hD [0, 1, 2] [3] rfl rfl (by decide) (by decide) hk1 hFc hP1 hD1
  generalize H1 = H at hP hS ⊢
  have hP : va_P (dC, dI) vwCl [(ou, .inl (kJ, 1, .inr (.inl fo))), (op, .inr (10, oX10 ot on dn rd oc d o si w se nb hi p_status oe ih mb p_imageStatus x_p)), (o, .inr (4, oX4 o_met o_enough x_o)), (o_met, .inl (kJ, 23, .inr (.inl f3)))] H := hP
  have hD : va_D A [(ou, .inl (kJ, 1, .inr (.inl fo))), (op, .inr (10, oX10 ot on dn rd oc d o si w se nb hi p_status oe ih mb p_imageStatus x_p)), (o, .inr (4, oX4 o_met o_enough x_o)), (o_met, .inl (kJ, 23, .inr (.inl f3)))] := hD
  refine W.widen (k := 0) (n := 0) (Nat.le_of_ble_eq_true rfl) (Nat.le_of_ble_eq_true rfl) ?_
  subst w2
  refine va_last hx hb hK hP hD hS 0 2 rfl rfl (vp_in_nI (n := 0) (by decide) (by decide)) dL_missing_8 (fun H locs hP hD hS => ?_)
  have hP : va_P (dC, dI) vwCl [(ou, .inl (kJ, 1, .inr (.inl (vp_updL fo 0 (1000000000000 - kv1 k 1))))), (op, .inr (10, oX10 ot on dn rd oc d o si w se nb hi p_status oe ih mb p_imageStatus x_p)), (o, .inr (4, oX4 o_met o_enough x_o)), (o_met, .inl (kJ, 23, .inr (.inl f3)))] H := hP
  have hD : va_D A [(ou, .inl (kJ, 1, .inr (.inl (vp_updL fo 0 (1000000000000 - kv1 k 1))))), (op, .inr (10, oX10 ot on dn rd oc d o si w se nb hi p_status oe ih mb p_imageStatus x_p)), (o, .inr (4, oX4 o_met o_enough x_o)), (o_met, .inl (kJ, 23, .inr (.inl f3)))] := hD
  refine lv_goto (tgt := 16) hx hb dL_missing_9 (by decide) ?_
  refine lv_iconst (v := 0) hx hb dL_missing_16 (by decide) ?_
  have hP9 := hP.sub (ws' := [(op, .inr (10, oX10 ot on dn rd oc d o si w se nb hi p_status oe ih mb p_imageStatus x_p)), (o, .inr (4, oX4 o_met o_enough x_o)), (o_met, .inl (kJ, 23, .inr (.inl f3))), (ou, .inl (kJ, 1, .inr (.inl (vp_updL fo 0 (1000000000000 - kv1 k 1)))))]) [1, 2, 3, 0] rfl
  have hD9 := hD.sub (ws' := [(op, .inr (10, oX10 ot on dn rd oc d o si w se nb hi p_status oe ih mb p_imageStatus x_p)), (o, .inr (4, oX4 o_met o_enough x_o)), (o_met, .inl (kJ, 23, .inr (.inl f3))), (ou, .inl (kJ, 1, .inr (.inl (vp_updL fo 0 (1000000000000 - kv1 k 1)))))]) [1, 2, 3, 0] (by decide) rfl
  exact W.iret (v := 0) hx hb hr (fun t ht hW => ⟨⟨0, (), rfl, rfl, f3, vp_updL fo 0 (1000000000000 - kv1 k 1), (show (vp_updL fo 0 (1000000000000 - kv1 k 1)) 0 = 1000000000000 - kv1 k 1 from rfl), by rw [ht]; exact hP9, hD9⟩, hS.F ht⟩) hS.2.2 dL_missing_17
def rm_s11_missing_1 : Room := { frames := 1, cells := 0, slots := 0, locals := 26 }
set_option maxHeartbeats 4000000 in
set_option maxRecDepth 100000 in
theorem s11_missing_1 (l : Launch) (dC : Nat → ClassId) (dI : Nat → Nat → Nat) (kB kI kJ kZ kC kS : ClassId) (sz : Nat) (m0 : Nat) (ra : Nat → Nat) (x0 : Nat → Int32) (q_met : Nat → Int64) (k : Nat) (hX : fI lX11 hX11 x0) (hk : k ≤ 60) : Met l yX11_missing wsX11_missing rm_s11_missing_1 (va_Pc [.ref m0, .int (nI k), .int 1] (fun U => U.heap.size = sz ∧ va_P (dC, dI) vwCl [(m0, .inr (11, oX11 ra x0)), (ra 15, .inl (kJ, 24, .inr (.inl q_met)))] U.heap ∧ kE dC dI kB kI kJ kZ kC kS U ∧ va_D (fun _ => True) [(m0, .inr (11, oX11 ra x0)), (ra 15, .inl (kJ, 24, .inr (.inl q_met)))])) (va_Ql (fun (r : Int64) (_ : Unit) => r = 1000000000000 - kv1 k 1) (fun _ t => ∃ (x0' : Nat → Int32) (q_met' : Nat → Int64), fI lX11 hX11 x0' ∧ (x0' 0 = 0) ∧ va_P (dC, dI) vwCl [(m0, .inr (11, oX11 ra x0')), (ra 15, .inl (kJ, 24, .inr (.inl q_met')))] t.heap ∧ va_D (va_A [(m0, .inr (11, oX11 ra x0)), (ra 15, .inl (kJ, 24, .inr (.inl q_met)))] sz) [(m0, .inr (11, oX11 ra x0')), (ra 15, .inl (kJ, 24, .inr (.inl q_met')))]) (va_A [(m0, .inr (11, oX11 ra x0)), (ra 15, .inl (kJ, 24, .inr (.inl q_met)))] sz)) 0 0 (va_A [(m0, .inr (11, oX11 ra x0)), (ra 15, .inl (kJ, 24, .inr (.inl q_met)))] sz) := by
  refine Met.ofW (cc := cX11_missing) (maxL := 3) (ret := (some .long)) (by decide) rfl ?_
  intro p e s m args0 below meth c s₁ B hml hv
  obtain ⟨hargs, hsz, hP, hE, hD0⟩ := hv
  have hx := B.exec
  have hb := B.bytes
  have hr := B.returns
  have hts := atoms_spec (ws := wsX11_missing) B.pre
  have hown : s.vm.findClass RX11 = some m.cls := findClass_of_methodNamed B.named
  have hlocks := B.notSynchronized
  have hK := hE.1
  have hin11 : ∀ w ∈ wsX110, w ∈ wsX11_missing := fun _ h9 => List.mem_cons_of_mem _ (List.mem_append_right _ h9)
  have hw_0 := hts (.fieldLink RX11 142 "PathProberModel" "code" "I") (List.mem_of_getElem? (i := 1) (by decide +kernel))
  subst hsz
  have hD := hD0.self (sz := s.heap.size)
  generalize hAe : va_A [(m0, .inr (11, oX11 ra x0)), (ra 15, .inl (kJ, 24, .inr (.inl q_met)))] s.heap.size = A at hD ⊢
  have hA : ∀ q : Nat, s.heap.size ≤ q → A q := fun q h => by rw [← hAe]; exact Or.inr h
  have hS : va_S A s.heap s.heap [] := va_S.rf
  have hP : va_P (dC, dI) vwCl [(m0, .inr (11, oX11 ra x0)), (ra 15, .inl (kJ, 24, .inr (.inl q_met)))] s.heap := hP
  have hl := lv_entry ([.ref m0, .int (nI k), .int 1]) (n := 3) (Nat.le_of_ble_eq_true rfl)
  have hla : entryFrame m args0 3 = entryFrame m ([.ref m0, .int (nI k), .int 1] : List Value).toArray 3 := by rw [hargs]
  rw [hla, lg_entry_eq]
  generalize (lg_sl ([.ref m0, .int (nI k), .int 1]) ++ List.replicate (3 - (lg_sl ([.ref m0, .int (nI k), .int 1])).length) Slot.unset).toArray = ls at hl ⊢
  have hl : lv_has ls 3 [(0, .ref m0), (1, .int (nI k)), (2, .int 1)] := hl
  have hkv : iv 0 60 (nI k) := iv_nIv (by omega) (by omega) (by omega)
  refine lv_aload_n hx hb dX11_missing_0 rfl (lv_at hl 0 rfl) ?_
  refine lv_iconst (v := 0) hx hb dX11_missing_1 (by decide) ?_
  refine va_put (D := (dC, dI)) (ci := 11) (v := .int 0) (ty := .int) (C := RX11) (T := TX11) (N := 61) hx hb hts hin11 tyX11 tyX11_ok nmX11 hown hK hP hD hS 0 rfl rfl 2 (by decide) hw_0 (fun _ h9 => h9) rfl (by decide +kernel) rfl rfl (Nat.le_of_ble_eq_true rfl) dX11_missing_2 (fun H locs hP hD hS => ?_)
  have hP : va_P (dC, dI) vwCl [(m0, .inr (11, oX11 ra (upd x0 0 0))), (ra 15, .inl (kJ, 24, .inr (.inl q_met)))] H := hP
  have hD : va_D A [(m0, .inr (11, oX11 ra (upd x0 0 0))), (ra 15, .inl (kJ, 24, .inr (.inl q_met)))] := hD
  refine lv_iload_n hx hb dX11_missing_5 rfl (lv_at hl 1 rfl) ?_
  refine lv_iconst (v := 0) hx hb dX11_missing_6 (by decide) ?_
  refine lv_bipush (v := 60) hx hb dX11_missing_7 (by decide) ?_
  have hPc := hP.sub (ws' := []) [] rfl
  have hDc := hD.sub (ws' := []) [] (by decide) rfl
  have hFc := va_free (wc := []) hD hS hA [] rfl
  refine va_calli (va_runS (As := [.int (nI k), .int 0, .int 60]) (rest := []) ⟨hx, hb, hml, hown, hts⟩ (s11_isIn_60 l dC dI kB kI kJ kZ kC kS H.size (nI k) (hkv)) (va_cwS 3 hts gX11_missing_X11_isIn rfl rfl rfl (by decide +kernel) ⟨Nat.le_of_ble_eq_true rfl, Nat.le_of_ble_eq_true rfl⟩) ⟨fun a U g mk q => by obtain ⟨q0, q1, qP, qE, qD⟩ := q; exact ⟨q0, q1, qP, kE_call qE, qD⟩, fun U hU hW => ⟨rfl, by rw [hU], by rw [hU]; exact hPc, kE_warm hW hE, hDc.weaken (fun _ _ _ _ => trivial)⟩⟩ rfl rfl hl.1 rfl (lv_room (Nat.le_of_ble_eq_true rfl)) dX11_missing_9 ⟨Nat.le_of_ble_eq_true rfl, Nat.le_of_ble_eq_true rfl⟩) hS (fun q _ h => hFc q h) hFc (fun r1 u t H1 locs ht hvm w2 hB hz1 hk1 hS => ?_)
  obtain ⟨hP1, hD1⟩ := hB
  rw [ht] at hP1
  try dsimp only at w2
  obtain ⟨hP, hD⟩ := va_join (wr := [(m0, .inr (11, oX11 ra (upd x0 0 0))), (ra 15, .inl (kJ, 24, .inr (.inl q_met)))]) (w1 := []) hP hD [] [0, 1] rfl rfl (by decide) (by decide) hk1 hFc hP1 hD1
  generalize H1 = H at hP hS ⊢
  have hP : va_P (dC, dI) vwCl [(m0, .inr (11, oX11 ra (upd x0 0 0))), (ra 15, .inl (kJ, 24, .inr (.inl q_met)))] H := hP
  have hD : va_D A [(m0, .inr (11, oX11 ra (upd x0 0 0))), (ra 15, .inl (kJ, 24, .inr (.inl q_met)))] := hD
  refine W.widen (k := 0) (n := 0) (Nat.le_of_ble_eq_true rfl) (Nat.le_of_ble_eq_true rfl) ?_
  obtain rfl : r1 = 1 := iv_one w2 (by decide)
  refine lv_if_eq (tgt := 33) hx hb dX11_missing_12 (by decide) (fun c9 => absurd c9 (by decide)) (fun _ => ?_)
  refine lv_iload_n hx hb dX11_missing_15 rfl (lv_at hl 2 rfl) ?_
  refine lv_iconst (v := 1) hx hb dX11_missing_16 (by decide) ?_
  refine lv_iconst (v := 5) hx hb dX11_missing_17 (by decide) ?_
  have hPc := hP.sub (ws' := []) [] rfl
  have hDc := hD.sub (ws' := []) [] (by decide) rfl
  have hFc := va_free (wc := []) hD hS hA [] rfl
  refine va_calli (va_runS (As := [.int 1, .int 1, .int 5]) (rest := []) ⟨hx, hb, hml, hown, hts⟩ (s11_isIn_m1 l dC dI kB kI kJ kZ kC kS H.size ) (va_cwS 3 hts gX11_missing_X11_isIn rfl rfl rfl (by decide +kernel) ⟨Nat.le_of_ble_eq_true rfl, Nat.le_of_ble_eq_true rfl⟩) ⟨fun a U g mk q => by obtain ⟨q0, q1, qP, qE, qD⟩ := q; exact ⟨q0, q1, qP, kE_call qE, qD⟩, fun U hU hW => ⟨rfl, by rw [hU], by rw [hU]; exact hPc, kE_warm hW hE, hDc.weaken (fun _ _ _ _ => trivial)⟩⟩ rfl rfl hl.1 rfl (lv_room (Nat.le_of_ble_eq_true rfl)) dX11_missing_18 ⟨Nat.le_of_ble_eq_true rfl, Nat.le_of_ble_eq_true rfl⟩) hS (fun q _ h => hFc q h) hFc (fun r3 u t H1 locs ht hvm w4 hB hz1 hk1 hS => ?_)
  obtain ⟨hP1, hD1⟩ := hB
  rw [ht] at hP1
  try dsimp only at w4
  obtain ⟨hP, hD⟩ := va_join (wr := [(m0, .inr (11, oX11 ra (upd x0 0 0))), (ra 15, .inl (kJ, 24, .inr (.inl q_met)))]) (w1 := []) hP hD [] [0, 1] rfl rfl (by decide) (by decide) hk1 hFc hP1 hD1
  generalize H1 = H at hP hS ⊢
  have hP : va_P (dC, dI) vwCl [(m0, .inr (11, oX11 ra (upd x0 0 0))), (ra 15, .inl (kJ, 24, .inr (.inl q_met)))] H := hP
  have hD : va_D A [(m0, .inr (11, oX11 ra (upd x0 0 0))), (ra 15, .inl (kJ, 24, .inr (.inl q_met)))] := hD
  refine W.widen (k := 0) (n := 0) (Nat.le_of_ble_eq_true rfl) (Nat.le_of_ble_eq_true rfl) ?_
  obtain rfl : r3 = 1 := iv_one w4 (by decide)
  refine lv_if_eq (tgt := 33) hx hb dX11_missing_21 (by decide) (fun c9 => absurd c9 (by decide)) (fun _ => ?_)
  refine lv_aload_n hx hb dX11_missing_24 rfl (lv_at hl 0 rfl) ?_
  refine lv_iload_n hx hb dX11_missing_25 rfl (lv_at hl 1 rfl) ?_
  refine lv_iload_n hx hb dX11_missing_26 rfl (lv_at hl 2 rfl) ?_
  have hPc := hP.sub (ws' := [(m0, .inr (11, oX11 ra (upd x0 0 0))), (ra 15, .inl (kJ, 24, .inr (.inl q_met)))]) [0, 1] rfl
  have hDc := hD.sub (ws' := [(m0, .inr (11, oX11 ra (upd x0 0 0))), (ra 15, .inl (kJ, 24, .inr (.inl q_met)))]) [0, 1] (by decide) rfl
  have hFc := va_free (wc := [(m0, .inr (11, oX11 ra (upd x0 0 0))), (ra 15, .inl (kJ, 24, .inr (.inl q_met)))]) hD hS hA [0, 1] rfl
  refine va_calll (va_runV (As := [.int (nI k), .int 1]) (rest := []) ⟨hx, hb, hml, hown, hts⟩ (e11_missingOf_1 l dC dI kB kI kJ kZ kC kS H.size m0 ra (upd x0 0 0) k q_met (hk)) (cwV 2 hts gX11_missing_X11_missingOf rfl rfl rfl (by decide +kernel) ⟨Nat.le_of_ble_eq_true rfl, Nat.le_of_ble_eq_true rfl⟩) ⟨fun a U g mk q => by obtain ⟨q0, q1, qP, qE, qD⟩ := q; exact ⟨q0, q1, qP, kE_call qE, qD⟩, va_recv hK hP (ci := 11) (q0 := 0) rfl rfl, fun U hU hW => ⟨rfl, by rw [hU], by rw [hU]; exact hPc, kE_warm hW hE, hDc.weaken (fun _ _ _ _ => trivial)⟩⟩ rfl rfl hl.1 rfl (lv_room (Nat.le_of_ble_eq_true rfl)) dX11_missing_27 ⟨Nat.le_of_ble_eq_true rfl, Nat.le_of_ble_eq_true rfl⟩) hS (fun q _ h => hFc q h) hFc (fun r5 u t H1 locs ht hvm w6 hB hz1 hk1 hS => ?_)
  obtain ⟨f7, hP1, hD1⟩ := hB
  rw [ht] at hP1
  try dsimp only at w6
  obtain ⟨hP, hD⟩ := va_join (wr := []) (w1 := [(m0, .inr (11, oX11 ra (upd x0 0 0))), (ra 15, .inl (kJ, 24, .inr (.inl f7)))]) hP hD [0, 1] [] rfl rfl (by decide) (by decide) hk1 hFc hP1 hD1
  generalize H1 = H at hP hS ⊢
  have hP : va_P (dC, dI) vwCl [(m0, .inr (11, oX11 ra (upd x0 0 0))), (ra 15, .inl (kJ, 24, .inr (.inl f7)))] H := hP
  have hD : va_D A [(m0, .inr (11, oX11 ra (upd x0 0 0))), (ra 15, .inl (kJ, 24, .inr (.inl f7)))] := hD
  refine W.widen (k := 0) (n := 0) (Nat.le_of_ble_eq_true rfl) (Nat.le_of_ble_eq_true rfl) ?_
  subst w6
  refine lv_goto (tgt := 39) hx hb dX11_missing_30 (by decide) ?_
  have hP9 := hP.sub (ws' := [(m0, .inr (11, oX11 ra (upd x0 0 0))), (ra 15, .inl (kJ, 24, .inr (.inl f7)))]) [0, 1] rfl
  have hD9 := hD.sub (ws' := [(m0, .inr (11, oX11 ra (upd x0 0 0))), (ra 15, .inl (kJ, 24, .inr (.inl f7)))]) [0, 1] (by decide) rfl
  exact W.lret (v := 1000000000000 - kv1 k 1) hx hb hr (fun t ht hW => ⟨⟨1000000000000 - kv1 k 1, (), rfl, rfl, upd x0 0 0, f7, (fI_u hX (k := 0) ((iv_w (iv_k (by decide) (by decide) : iv 0 0 0) (by decide) (by decide)))), (show 0 = 0 from rfl), by rw [ht]; exact hP9, hD9⟩, hS.F ht⟩) hS.2.2 dX11_missing_39
def rm_s10_missing_2 : Room := { frames := 2, cells := 0, slots := 0, locals := 47 }
set_option maxHeartbeats 4000000 in
set_option maxRecDepth 100000 in
theorem s10_missing_2 (l : Launch) (dC : Nat → ClassId) (dI : Nat → Nat → Nat) (kB kI kJ kZ kC kS : ClassId) (sz : Nat) (op : Nat) (ot : Nat) (on : Nat) (dn : Nat) (rd : Nat) (oc : Nat) (d : Nat) (o : Nat) (si : Nat) (w : Nat) (se : Nat) (nb : Nat) (hi : Nat) (p_status : Nat) (oe : Nat) (ih : Nat) (mb : Nat) (p_imageStatus : Nat) (x_p : Nat → Int32) (o_met : Nat) (o_enough : Nat) (x_o : Nat → Int32) (f_o_met : Nat → Int64) (k : Nat) (hk : k ≤ 60) : Met l yX10_missing wsX10_missing rm_s10_missing_2 (va_Pc [.ref op, .int (nI k), .int 2] (fun U => U.heap.size = sz ∧ va_P (dC, dI) vwCl [(op, .inr (10, oX10 ot on dn rd oc d o si w se nb hi p_status oe ih mb p_imageStatus x_p)), (o, .inr (4, oX4 o_met o_enough x_o)), (o_met, .inl (kJ, 23, .inr (.inl f_o_met)))] U.heap ∧ kE dC dI kB kI kJ kZ kC kS U ∧ va_D (fun _ => True) [(op, .inr (10, oX10 ot on dn rd oc d o si w se nb hi p_status oe ih mb p_imageStatus x_p)), (o, .inr (4, oX4 o_met o_enough x_o)), (o_met, .inl (kJ, 23, .inr (.inl f_o_met)))])) (va_Ql (fun (r : Int64) (_ : Unit) => r = 1000000000000 - kv2 k 2) (fun _ t => ∃ (f_o_met' : Nat → Int64), va_P (dC, dI) vwCl [(op, .inr (10, oX10 ot on dn rd oc d o si w se nb hi p_status oe ih mb p_imageStatus x_p)), (o, .inr (4, oX4 o_met o_enough x_o)), (o_met, .inl (kJ, 23, .inr (.inl f_o_met')))] t.heap ∧ va_D (va_A [(op, .inr (10, oX10 ot on dn rd oc d o si w se nb hi p_status oe ih mb p_imageStatus x_p)), (o, .inr (4, oX4 o_met o_enough x_o)), (o_met, .inl (kJ, 23, .inr (.inl f_o_met)))] sz) [(op, .inr (10, oX10 ot on dn rd oc d o si w se nb hi p_status oe ih mb p_imageStatus x_p)), (o, .inr (4, oX4 o_met o_enough x_o)), (o_met, .inl (kJ, 23, .inr (.inl f_o_met')))]) (va_A [(op, .inr (10, oX10 ot on dn rd oc d o si w se nb hi p_status oe ih mb p_imageStatus x_p)), (o, .inr (4, oX4 o_met o_enough x_o)), (o_met, .inl (kJ, 23, .inr (.inl f_o_met)))] sz)) 0 0 (va_A [(op, .inr (10, oX10 ot on dn rd oc d o si w se nb hi p_status oe ih mb p_imageStatus x_p)), (o, .inr (4, oX4 o_met o_enough x_o)), (o_met, .inl (kJ, 23, .inr (.inl f_o_met)))] sz) := by
  refine Met.ofW (cc := cX10_missing) (maxL := 3) (ret := (some .long)) (by decide) rfl ?_
  intro p e s m args0 below meth c s₁ B hml hv
  obtain ⟨hargs, hsz, hP, hE, hD0⟩ := hv
  have hx := B.exec
  have hb := B.bytes
  have hr := B.returns
  have hts := atoms_spec (ws := wsX10_missing) B.pre
  have hown : s.vm.findClass RX10 = some m.cls := findClass_of_methodNamed B.named
  have hlocks := B.notSynchronized
  have hK := hE.1
  have hin10 : ∀ w ∈ wsX100, w ∈ wsX10_missing := fun _ h9 => List.mem_cons_of_mem _ (List.mem_append_left _ (List.mem_append_left _ (List.mem_append_right _ h9)))
  have hin4 : ∀ w ∈ wsX40, w ∈ wsX10_missing := fun _ h9 => List.mem_cons_of_mem _ (List.mem_append_left _ (List.mem_append_right _ h9))
  have hw_0 := hts (.fieldLink RX10 48 "PathProber" "odds" "LPathProber$Odds;") (List.mem_of_getElem? (i := 3) (by decide +kernel))
  subst hsz
  have hD := hD0.self (sz := s.heap.size)
  generalize hAe : va_A [(op, .inr (10, oX10 ot on dn rd oc d o si w se nb hi p_status oe ih mb p_imageStatus x_p)), (o, .inr (4, oX4 o_met o_enough x_o)), (o_met, .inl (kJ, 23, .inr (.inl f_o_met)))] s.heap.size = A at hD ⊢
  have hA : ∀ q : Nat, s.heap.size ≤ q → A q := fun q h => by rw [← hAe]; exact Or.inr h
  have hS : va_S A s.heap s.heap [] := va_S.rf
  have hP : va_P (dC, dI) vwCl [(op, .inr (10, oX10 ot on dn rd oc d o si w se nb hi p_status oe ih mb p_imageStatus x_p)), (o, .inr (4, oX4 o_met o_enough x_o)), (o_met, .inl (kJ, 23, .inr (.inl f_o_met)))] s.heap := hP
  have hl := lv_entry ([.ref op, .int (nI k), .int 2]) (n := 3) (Nat.le_of_ble_eq_true rfl)
  have hla : entryFrame m args0 3 = entryFrame m ([.ref op, .int (nI k), .int 2] : List Value).toArray 3 := by rw [hargs]
  rw [hla, lg_entry_eq]
  generalize (lg_sl ([.ref op, .int (nI k), .int 2]) ++ List.replicate (3 - (lg_sl ([.ref op, .int (nI k), .int 2])).length) Slot.unset).toArray = ls at hl ⊢
  have hl : lv_has ls 3 [(0, .ref op), (1, .int (nI k)), (2, .int 2)] := hl
  have hkv : iv 0 60 (nI k) := iv_nIv (by omega) (by omega) (by omega)
  refine lv_iload_n hx hb dX10_missing_0 rfl (lv_at hl 1 rfl) ?_
  refine lv_if_lt (tgt := 20) hx hb dX10_missing_1 (by decide) (fun c9 => absurd c9 (iv_nlt hkv (iv_k (by decide) (by decide) : iv 0 0 0) (by decide))) (fun _ => ?_)
  refine lv_iload_n hx hb dX10_missing_4 rfl (lv_at hl 1 rfl) ?_
  refine lv_bipush (v := 60) hx hb dX10_missing_5 (by decide) ?_
  refine lv_icmp_gt (tgt := 20) hx hb dX10_missing_7 (by decide) (fun c9 => absurd c9 (iv_nlt (iv_k (by decide) (by decide) : iv 60 60 60) hkv (by decide))) (fun _ => ?_)
  refine lv_iload_n hx hb dX10_missing_10 rfl (lv_at hl 2 rfl) ?_
  refine lv_iconst (v := 1) hx hb dX10_missing_11 (by decide) ?_
  refine lv_icmp_lt (tgt := 20) hx hb dX10_missing_12 (by decide) (fun c9 => absurd c9 (by decide)) (fun _ => ?_)
  refine lv_iload_n hx hb dX10_missing_15 rfl (lv_at hl 2 rfl) ?_
  refine lv_iconst (v := 5) hx hb dX10_missing_16 (by decide) ?_
  refine lv_icmp_le (tgt := 31) hx hb dX10_missing_17 (by decide) (fun _ => ?_) (fun c9 => absurd (by decide) c9)
  refine lv_aload_n hx hb dX10_missing_31 rfl (lv_at hl 0 rfl) ?_
  refine va_get (D := (dC, dI)) (ci := 10) (v := .ref o) (C := RX10) (T := TX10) (N := 19) hx hb hts hin10 hown hK hP 0 rfl rfl 6 (by decide) hw_0 (fun _ h9 => h9) rfl dX10_missing_32 ?_
  refine lv_iload_n hx hb dX10_missing_35 rfl (lv_at hl 1 rfl) ?_
  refine lv_iload_n hx hb dX10_missing_36 rfl (lv_at hl 2 rfl) ?_
  have hPc := hP.sub (ws' := [(o, .inr (4, oX4 o_met o_enough x_o)), (o_met, .inl (kJ, 23, .inr (.inl f_o_met)))]) [1, 2] rfl
  have hDc := hD.sub (ws' := [(o, .inr (4, oX4 o_met o_enough x_o)), (o_met, .inl (kJ, 23, .inr (.inl f_o_met)))]) [1, 2] (by decide) rfl
  have hFc := va_free (wc := [(o, .inr (4, oX4 o_met o_enough x_o)), (o_met, .inl (kJ, 23, .inr (.inl f_o_met)))]) hD hS hA [1, 2] rfl
  refine va_calll (va_runV (As := [.int (nI k), .int 2]) (rest := []) ⟨hx, hb, hml, hown, hts⟩ (e4_missed_2 l dC dI kB kI kJ kZ kC kS s.heap.size o o_met o_enough x_o k f_o_met (hk)) (cwV 2 hts gX10_missing_X4_missed rfl rfl rfl (by decide +kernel) ⟨Nat.le_of_ble_eq_true rfl, Nat.le_of_ble_eq_true rfl⟩) ⟨fun a U g mk q => by obtain ⟨q0, q1, qP, qE, qD⟩ := q; exact ⟨q0, q1, qP, kE_call qE, qD⟩, va_recv hK hP (ci := 4) (q0 := 1) rfl rfl, fun U hU hW => ⟨rfl, by rw [hU], by rw [hU]; exact hPc, kE_warm hW hE, hDc.weaken (fun _ _ _ _ => trivial)⟩⟩ rfl rfl hl.1 rfl (lv_room (Nat.le_of_ble_eq_true rfl)) dX10_missing_37 ⟨Nat.le_of_ble_eq_true rfl, Nat.le_of_ble_eq_true rfl⟩) hS (fun q _ h => hFc q h) hFc (fun r1 u t H1 locs ht hvm w2 hB hz1 hk1 hS => ?_)
  obtain ⟨f3, hP1, hD1⟩ := hB
  rw [ht] at hP1
  try dsimp only at w2
  obtain ⟨hP, hD⟩ := va_join (wr := [(op, .inr (10, oX10 ot on dn rd oc d o si w se nb hi p_status oe ih mb p_imageStatus x_p))]) (w1 := [(o, .inr (4, oX4 o_met o_enough x_o)), (o_met, .inl (kJ, 23, .inr (.inl f3)))]) hP hD [1, 2] [0] rfl rfl (by decide) (by decide) hk1 hFc hP1 hD1
  generalize H1 = H at hP hS ⊢
  have hP : va_P (dC, dI) vwCl [(op, .inr (10, oX10 ot on dn rd oc d o si w se nb hi p_status oe ih mb p_imageStatus x_p)), (o, .inr (4, oX4 o_met o_enough x_o)), (o_met, .inl (kJ, 23, .inr (.inl f3)))] H := hP
  have hD : va_D A [(op, .inr (10, oX10 ot on dn rd oc d o si w se nb hi p_status oe ih mb p_imageStatus x_p)), (o, .inr (4, oX4 o_met o_enough x_o)), (o_met, .inl (kJ, 23, .inr (.inl f3)))] := hD
  refine W.widen (k := 0) (n := 0) (Nat.le_of_ble_eq_true rfl) (Nat.le_of_ble_eq_true rfl) ?_
  subst w2
  have hP9 := hP.sub (ws' := [(op, .inr (10, oX10 ot on dn rd oc d o si w se nb hi p_status oe ih mb p_imageStatus x_p)), (o, .inr (4, oX4 o_met o_enough x_o)), (o_met, .inl (kJ, 23, .inr (.inl f3)))]) [0, 1, 2] rfl
  have hD9 := hD.sub (ws' := [(op, .inr (10, oX10 ot on dn rd oc d o si w se nb hi p_status oe ih mb p_imageStatus x_p)), (o, .inr (4, oX4 o_met o_enough x_o)), (o_met, .inl (kJ, 23, .inr (.inl f3)))]) [0, 1, 2] (by decide) rfl
  exact W.lret (v := 1000000000000 - kv2 k 2) hx hb hr (fun t ht hW => ⟨⟨1000000000000 - kv2 k 2, (), rfl, rfl, f3, by rw [ht]; exact hP9, hD9⟩, hS.F ht⟩) hS.2.2 dX10_missing_40
def rm_sL_missing_2 : Room := { frames := 3, cells := 0, slots := 0, locals := 69 }
set_option maxHeartbeats 4000000 in
set_option maxRecDepth 100000 in
theorem sL_missing_2 (l : Launch) (hst : l.stackTraces = false) (dC : Nat → ClassId) (dI : Nat → Nat → Nat) (kB kI kJ kZ kC kS : ClassId) (sz : Nat) (op : Nat) (ot : Nat) (on : Nat) (dn : Nat) (rd : Nat) (oc : Nat) (d : Nat) (o : Nat) (si : Nat) (w : Nat) (se : Nat) (nb : Nat) (hi : Nat) (p_status : Nat) (oe : Nat) (ih : Nat) (mb : Nat) (p_imageStatus : Nat) (x_p : Nat → Int32) (o_met : Nat) (o_enough : Nat) (x_o : Nat → Int32) (f_o_met : Nat → Int64) (k : Nat) (ou : Nat) (fo : Nat → Int64) (hk : k ≤ 60) : Met l yL_missing wsL_missing rm_sL_missing_2 (va_Pc [.ref op, .int (nI k), .int 2, .ref ou] (fun U => U.heap.size = sz ∧ va_P (dC, dI) vwCl [(op, .inr (10, oX10 ot on dn rd oc d o si w se nb hi p_status oe ih mb p_imageStatus x_p)), (o, .inr (4, oX4 o_met o_enough x_o)), (o_met, .inl (kJ, 23, .inr (.inl f_o_met))), (ou, .inl (kJ, 1, .inr (.inl fo)))] U.heap ∧ kE dC dI kB kI kJ kZ kC kS U ∧ va_D (fun _ => True) [(op, .inr (10, oX10 ot on dn rd oc d o si w se nb hi p_status oe ih mb p_imageStatus x_p)), (o, .inr (4, oX4 o_met o_enough x_o)), (o_met, .inl (kJ, 23, .inr (.inl f_o_met))), (ou, .inl (kJ, 1, .inr (.inl fo)))] ∧ kX U ∧ kT (va_A [(op, .inr (10, oX10 ot on dn rd oc d o si w se nb hi p_status oe ih mb p_imageStatus x_p)), (o, .inr (4, oX4 o_met o_enough x_o)), (o_met, .inl (kJ, 23, .inr (.inl f_o_met))), (ou, .inl (kJ, 1, .inr (.inl fo)))] sz) U)) (va_Qi (fun (r : Int32) (_ : Unit) => r = 0) (fun _ t => ∃ (f_o_met' : Nat → Int64) (fo' : Nat → Int64), (fo' 0 = 1000000000000 - kv2 k 2) ∧ va_P (dC, dI) vwCl [(op, .inr (10, oX10 ot on dn rd oc d o si w se nb hi p_status oe ih mb p_imageStatus x_p)), (o, .inr (4, oX4 o_met o_enough x_o)), (o_met, .inl (kJ, 23, .inr (.inl f_o_met'))), (ou, .inl (kJ, 1, .inr (.inl fo')))] t.heap ∧ va_D (va_A [(op, .inr (10, oX10 ot on dn rd oc d o si w se nb hi p_status oe ih mb p_imageStatus x_p)), (o, .inr (4, oX4 o_met o_enough x_o)), (o_met, .inl (kJ, 23, .inr (.inl f_o_met))), (ou, .inl (kJ, 1, .inr (.inl fo)))] sz) [(op, .inr (10, oX10 ot on dn rd oc d o si w se nb hi p_status oe ih mb p_imageStatus x_p)), (o, .inr (4, oX4 o_met o_enough x_o)), (o_met, .inl (kJ, 23, .inr (.inl f_o_met'))), (ou, .inl (kJ, 1, .inr (.inl fo')))]) (va_A [(op, .inr (10, oX10 ot on dn rd oc d o si w se nb hi p_status oe ih mb p_imageStatus x_p)), (o, .inr (4, oX4 o_met o_enough x_o)), (o_met, .inl (kJ, 23, .inr (.inl f_o_met))), (ou, .inl (kJ, 1, .inr (.inl fo)))] sz)) 0 0 (va_A [(op, .inr (10, oX10 ot on dn rd oc d o si w se nb hi p_status oe ih mb p_imageStatus x_p)), (o, .inr (4, oX4 o_met o_enough x_o)), (o_met, .inl (kJ, 23, .inr (.inl f_o_met))), (ou, .inl (kJ, 1, .inr (.inl fo)))] sz) := by
  refine va_MetW (cc := cL_missing) (maxL := 5) (ret := (some .int)) (by decide) rfl ?_
  intro p e s m args0 below meth c s₁ B hml hv
  obtain ⟨hargs, hsz, hP, hE, hD0, hXs, hT⟩ := hv
  have hx := B.exec
  have hb := B.bytes
  have hr := B.returns
  have hts := atoms_spec (ws := wsL_missing) B.pre
  have hown : s.vm.findClass RL = some m.cls := findClass_of_methodNamed B.named
  have hlocks := B.notSynchronized
  have hK := hE.1
  have hin10 : ∀ w ∈ wsX100, w ∈ wsL_missing := fun _ h9 => List.mem_cons_of_mem _ (List.mem_append_left _ (List.mem_append_left _ (List.mem_append_right _ h9)))
  have hin4 : ∀ w ∈ wsX40, w ∈ wsL_missing := fun _ h9 => List.mem_cons_of_mem _ (List.mem_append_left _ (List.mem_append_right _ h9))
  subst hsz
  have hD := hD0.self (sz := s.heap.size)
  generalize hAe : va_A [(op, .inr (10, oX10 ot on dn rd oc d o si w se nb hi p_status oe ih mb p_imageStatus x_p)), (o, .inr (4, oX4 o_met o_enough x_o)), (o_met, .inl (kJ, 23, .inr (.inl f_o_met))), (ou, .inl (kJ, 1, .inr (.inl fo)))] s.heap.size = A at hD hT ⊢
  have hA : ∀ q : Nat, s.heap.size ≤ q → A q := fun q h => by rw [← hAe]; exact Or.inr h
  have hS : va_S A s.heap s.heap [] := va_S.rf
  have hP : va_P (dC, dI) vwCl [(op, .inr (10, oX10 ot on dn rd oc d o si w se nb hi p_status oe ih mb p_imageStatus x_p)), (o, .inr (4, oX4 o_met o_enough x_o)), (o_met, .inl (kJ, 23, .inr (.inl f_o_met))), (ou, .inl (kJ, 1, .inr (.inl fo)))] s.heap := hP
  have hl := lv_entry ([.ref op, .int (nI k), .int 2, .ref ou]) (n := 5) (Nat.le_of_ble_eq_true rfl)
  have hla : entryFrame m args0 5 = entryFrame m ([.ref op, .int (nI k), .int 2, .ref ou] : List Value).toArray 5 := by rw [hargs]
  rw [hla, lg_entry_eq]
  generalize (lg_sl ([.ref op, .int (nI k), .int 2, .ref ou]) ++ List.replicate (5 - (lg_sl ([.ref op, .int (nI k), .int 2, .ref ou])).length) Slot.unset).toArray = ls at hl ⊢
  have hl : lv_has ls 5 [(0, .ref op), (1, .int (nI k)), (2, .int 2), (3, .ref ou)] := hl
  have hkv : iv 0 60 (nI k) := iv_nIv (by omega) (by omega) (by omega)
  refine lv_aload_n hx hb dL_missing_0 rfl (lv_at hl 3 rfl) ?_
  refine lv_iconst (v := 0) hx hb dL_missing_1 (by decide) ?_
  refine lv_aload_n hx hb dL_missing_2 rfl (lv_at hl 0 rfl) ?_
  refine lv_iload_n hx hb dL_missing_3 rfl (lv_at hl 1 rfl) ?_
  refine lv_iload_n hx hb dL_missing_4 rfl (lv_at hl 2 rfl) ?_
  have hPc := hP.sub (ws' := [(op, .inr (10, oX10 ot on dn rd oc d o si w se nb hi p_status oe ih mb p_imageStatus x_p)), (o, .inr (4, oX4 o_met o_enough x_o)), (o_met, .inl (kJ, 23, .inr (.inl f_o_met)))]) [0, 1, 2] rfl
  have hDc := hD.sub (ws' := [(op, .inr (10, oX10 ot on dn rd oc d o si w se nb hi p_status oe ih mb p_imageStatus x_p)), (o, .inr (4, oX4 o_met o_enough x_o)), (o_met, .inl (kJ, 23, .inr (.inl f_o_met)))]) [0, 1, 2] (by decide) rfl
  have hFc := va_free (wc := [(op, .inr (10, oX10 ot on dn rd oc d o si w se nb hi p_status oe ih mb p_imageStatus x_p)), (o, .inr (4, oX4 o_met o_enough x_o)), (o_met, .inl (kJ, 23, .inr (.inl f_o_met)))]) hD hS hA [0, 1, 2] rfl
  refine va_calll (va_runV (As := [.int (nI k), .int 2]) (rest := [.int 0, .ref ou]) ⟨hx, hb, hml, hown, hts⟩ (s10_missing_2 l dC dI kB kI kJ kZ kC kS s.heap.size op ot on dn rd oc d o si w se nb hi p_status oe ih mb p_imageStatus x_p o_met o_enough x_o f_o_met k (hk)) (cwV 2 hts gL_missing_X10_missing rfl rfl rfl (by decide +kernel) ⟨Nat.le_of_ble_eq_true rfl, Nat.le_of_ble_eq_true rfl⟩) ⟨fun a U g mk q => by obtain ⟨q0, q1, qP, qE, qD⟩ := q; exact ⟨q0, q1, qP, kE_call qE, qD⟩, va_recv hK hP (ci := 10) (q0 := 0) rfl rfl, fun U hU hW => ⟨rfl, by rw [hU], by rw [hU]; exact hPc, kE_warm hW hE, hDc.weaken (fun _ _ _ _ => trivial)⟩⟩ rfl rfl hl.1 rfl (lv_room (Nat.le_of_ble_eq_true rfl)) dL_missing_5 ⟨Nat.le_of_ble_eq_true rfl, Nat.le_of_ble_eq_true rfl⟩) hS (fun q _ h => hFc q h) hFc (fun r1 u t H1 locs ht hvm w2 hB hz1 hk1 hS => ?_)
  obtain ⟨f3, hP1, hD1⟩ := hB
  rw [ht] at hP1
  try dsimp only at w2
  obtain ⟨hP, hD⟩ := va_join (wr := [(ou, .inl (kJ, 1, .inr (.inl fo)))]) (w1 := [(op, .inr (10, oX10 ot on dn rd oc d o si w se nb hi p_status oe ih mb p_imageStatus x_p)), (o, .inr (4, oX4 o_met o_enough x_o)), (o_met, .inl (kJ, 23, .inr (.inl f3)))]) hP hD [0, 1, 2] [3] rfl rfl (by decide) (by decide) hk1 hFc hP1 hD1
  generalize H1 = H at hP hS ⊢
  have hP : va_P (dC, dI) vwCl [(ou, .inl (kJ, 1, .inr (.inl fo))), (op, .inr (10, oX10 ot on dn rd oc d o si w se nb hi p_status oe ih mb p_imageStatus x_p)), (o, .inr (4, oX4 o_met o_enough x_o)), (o_met, .inl (kJ, 23, .inr (.inl f3)))] H := hP
  have hD : va_D A [(ou, .inl (kJ, 1, .inr (.inl fo))), (op, .inr (10, oX10 ot on dn rd oc d o si w se nb hi p_status oe ih mb p_imageStatus x_p)), (o, .inr (4, oX4 o_met o_enough x_o)), (o_met, .inl (kJ, 23, .inr (.inl f3)))] := hD
  refine W.widen (k := 0) (n := 0) (Nat.le_of_ble_eq_true rfl) (Nat.le_of_ble_eq_true rfl) ?_
  subst w2
  refine va_last hx hb hK hP hD hS 0 2 rfl rfl (vp_in_nI (n := 0) (by decide) (by decide)) dL_missing_8 (fun H locs hP hD hS => ?_)
  have hP : va_P (dC, dI) vwCl [(ou, .inl (kJ, 1, .inr (.inl (vp_updL fo 0 (1000000000000 - kv2 k 2))))), (op, .inr (10, oX10 ot on dn rd oc d o si w se nb hi p_status oe ih mb p_imageStatus x_p)), (o, .inr (4, oX4 o_met o_enough x_o)), (o_met, .inl (kJ, 23, .inr (.inl f3)))] H := hP
  have hD : va_D A [(ou, .inl (kJ, 1, .inr (.inl (vp_updL fo 0 (1000000000000 - kv2 k 2))))), (op, .inr (10, oX10 ot on dn rd oc d o si w se nb hi p_status oe ih mb p_imageStatus x_p)), (o, .inr (4, oX4 o_met o_enough x_o)), (o_met, .inl (kJ, 23, .inr (.inl f3)))] := hD
  refine lv_goto (tgt := 16) hx hb dL_missing_9 (by decide) ?_
  refine lv_iconst (v := 0) hx hb dL_missing_16 (by decide) ?_
  have hP9 := hP.sub (ws' := [(op, .inr (10, oX10 ot on dn rd oc d o si w se nb hi p_status oe ih mb p_imageStatus x_p)), (o, .inr (4, oX4 o_met o_enough x_o)), (o_met, .inl (kJ, 23, .inr (.inl f3))), (ou, .inl (kJ, 1, .inr (.inl (vp_updL fo 0 (1000000000000 - kv2 k 2)))))]) [1, 2, 3, 0] rfl
  have hD9 := hD.sub (ws' := [(op, .inr (10, oX10 ot on dn rd oc d o si w se nb hi p_status oe ih mb p_imageStatus x_p)), (o, .inr (4, oX4 o_met o_enough x_o)), (o_met, .inl (kJ, 23, .inr (.inl f3))), (ou, .inl (kJ, 1, .inr (.inl (vp_updL fo 0 (1000000000000 - kv2 k 2)))))]) [1, 2, 3, 0] (by decide) rfl
  exact W.iret (v := 0) hx hb hr (fun t ht hW => ⟨⟨0, (), rfl, rfl, f3, vp_updL fo 0 (1000000000000 - kv2 k 2), (show (vp_updL fo 0 (1000000000000 - kv2 k 2)) 0 = 1000000000000 - kv2 k 2 from rfl), by rw [ht]; exact hP9, hD9⟩, hS.F ht⟩) hS.2.2 dL_missing_17
def rm_s11_missing_2 : Room := { frames := 1, cells := 0, slots := 0, locals := 26 }
set_option maxHeartbeats 4000000 in
set_option maxRecDepth 100000 in
theorem s11_missing_2 (l : Launch) (dC : Nat → ClassId) (dI : Nat → Nat → Nat) (kB kI kJ kZ kC kS : ClassId) (sz : Nat) (m0 : Nat) (ra : Nat → Nat) (x0 : Nat → Int32) (q_met : Nat → Int64) (k : Nat) (hX : fI lX11 hX11 x0) (hk : k ≤ 60) : Met l yX11_missing wsX11_missing rm_s11_missing_2 (va_Pc [.ref m0, .int (nI k), .int 2] (fun U => U.heap.size = sz ∧ va_P (dC, dI) vwCl [(m0, .inr (11, oX11 ra x0)), (ra 15, .inl (kJ, 24, .inr (.inl q_met)))] U.heap ∧ kE dC dI kB kI kJ kZ kC kS U ∧ va_D (fun _ => True) [(m0, .inr (11, oX11 ra x0)), (ra 15, .inl (kJ, 24, .inr (.inl q_met)))])) (va_Ql (fun (r : Int64) (_ : Unit) => r = 1000000000000 - kv2 k 2) (fun _ t => ∃ (x0' : Nat → Int32) (q_met' : Nat → Int64), fI lX11 hX11 x0' ∧ (x0' 0 = 0) ∧ va_P (dC, dI) vwCl [(m0, .inr (11, oX11 ra x0')), (ra 15, .inl (kJ, 24, .inr (.inl q_met')))] t.heap ∧ va_D (va_A [(m0, .inr (11, oX11 ra x0)), (ra 15, .inl (kJ, 24, .inr (.inl q_met)))] sz) [(m0, .inr (11, oX11 ra x0')), (ra 15, .inl (kJ, 24, .inr (.inl q_met')))]) (va_A [(m0, .inr (11, oX11 ra x0)), (ra 15, .inl (kJ, 24, .inr (.inl q_met)))] sz)) 0 0 (va_A [(m0, .inr (11, oX11 ra x0)), (ra 15, .inl (kJ, 24, .inr (.inl q_met)))] sz) := by
  refine Met.ofW (cc := cX11_missing) (maxL := 3) (ret := (some .long)) (by decide) rfl ?_
  intro p e s m args0 below meth c s₁ B hml hv
  obtain ⟨hargs, hsz, hP, hE, hD0⟩ := hv
  have hx := B.exec
  have hb := B.bytes
  have hr := B.returns
  have hts := atoms_spec (ws := wsX11_missing) B.pre
  have hown : s.vm.findClass RX11 = some m.cls := findClass_of_methodNamed B.named
  have hlocks := B.notSynchronized
  have hK := hE.1
  have hin11 : ∀ w ∈ wsX110, w ∈ wsX11_missing := fun _ h9 => List.mem_cons_of_mem _ (List.mem_append_right _ h9)
  have hw_0 := hts (.fieldLink RX11 142 "PathProberModel" "code" "I") (List.mem_of_getElem? (i := 1) (by decide +kernel))
  subst hsz
  have hD := hD0.self (sz := s.heap.size)
  generalize hAe : va_A [(m0, .inr (11, oX11 ra x0)), (ra 15, .inl (kJ, 24, .inr (.inl q_met)))] s.heap.size = A at hD ⊢
  have hA : ∀ q : Nat, s.heap.size ≤ q → A q := fun q h => by rw [← hAe]; exact Or.inr h
  have hS : va_S A s.heap s.heap [] := va_S.rf
  have hP : va_P (dC, dI) vwCl [(m0, .inr (11, oX11 ra x0)), (ra 15, .inl (kJ, 24, .inr (.inl q_met)))] s.heap := hP
  have hl := lv_entry ([.ref m0, .int (nI k), .int 2]) (n := 3) (Nat.le_of_ble_eq_true rfl)
  have hla : entryFrame m args0 3 = entryFrame m ([.ref m0, .int (nI k), .int 2] : List Value).toArray 3 := by rw [hargs]
  rw [hla, lg_entry_eq]
  generalize (lg_sl ([.ref m0, .int (nI k), .int 2]) ++ List.replicate (3 - (lg_sl ([.ref m0, .int (nI k), .int 2])).length) Slot.unset).toArray = ls at hl ⊢
  have hl : lv_has ls 3 [(0, .ref m0), (1, .int (nI k)), (2, .int 2)] := hl
  have hkv : iv 0 60 (nI k) := iv_nIv (by omega) (by omega) (by omega)
  refine lv_aload_n hx hb dX11_missing_0 rfl (lv_at hl 0 rfl) ?_
  refine lv_iconst (v := 0) hx hb dX11_missing_1 (by decide) ?_
  refine va_put (D := (dC, dI)) (ci := 11) (v := .int 0) (ty := .int) (C := RX11) (T := TX11) (N := 61) hx hb hts hin11 tyX11 tyX11_ok nmX11 hown hK hP hD hS 0 rfl rfl 2 (by decide) hw_0 (fun _ h9 => h9) rfl (by decide +kernel) rfl rfl (Nat.le_of_ble_eq_true rfl) dX11_missing_2 (fun H locs hP hD hS => ?_)
  have hP : va_P (dC, dI) vwCl [(m0, .inr (11, oX11 ra (upd x0 0 0))), (ra 15, .inl (kJ, 24, .inr (.inl q_met)))] H := hP
  have hD : va_D A [(m0, .inr (11, oX11 ra (upd x0 0 0))), (ra 15, .inl (kJ, 24, .inr (.inl q_met)))] := hD
  refine lv_iload_n hx hb dX11_missing_5 rfl (lv_at hl 1 rfl) ?_
  refine lv_iconst (v := 0) hx hb dX11_missing_6 (by decide) ?_
  refine lv_bipush (v := 60) hx hb dX11_missing_7 (by decide) ?_
  have hPc := hP.sub (ws' := []) [] rfl
  have hDc := hD.sub (ws' := []) [] (by decide) rfl
  have hFc := va_free (wc := []) hD hS hA [] rfl
  refine va_calli (va_runS (As := [.int (nI k), .int 0, .int 60]) (rest := []) ⟨hx, hb, hml, hown, hts⟩ (s11_isIn_60 l dC dI kB kI kJ kZ kC kS H.size (nI k) (hkv)) (va_cwS 3 hts gX11_missing_X11_isIn rfl rfl rfl (by decide +kernel) ⟨Nat.le_of_ble_eq_true rfl, Nat.le_of_ble_eq_true rfl⟩) ⟨fun a U g mk q => by obtain ⟨q0, q1, qP, qE, qD⟩ := q; exact ⟨q0, q1, qP, kE_call qE, qD⟩, fun U hU hW => ⟨rfl, by rw [hU], by rw [hU]; exact hPc, kE_warm hW hE, hDc.weaken (fun _ _ _ _ => trivial)⟩⟩ rfl rfl hl.1 rfl (lv_room (Nat.le_of_ble_eq_true rfl)) dX11_missing_9 ⟨Nat.le_of_ble_eq_true rfl, Nat.le_of_ble_eq_true rfl⟩) hS (fun q _ h => hFc q h) hFc (fun r1 u t H1 locs ht hvm w2 hB hz1 hk1 hS => ?_)
  obtain ⟨hP1, hD1⟩ := hB
  rw [ht] at hP1
  try dsimp only at w2
  obtain ⟨hP, hD⟩ := va_join (wr := [(m0, .inr (11, oX11 ra (upd x0 0 0))), (ra 15, .inl (kJ, 24, .inr (.inl q_met)))]) (w1 := []) hP hD [] [0, 1] rfl rfl (by decide) (by decide) hk1 hFc hP1 hD1
  generalize H1 = H at hP hS ⊢
  have hP : va_P (dC, dI) vwCl [(m0, .inr (11, oX11 ra (upd x0 0 0))), (ra 15, .inl (kJ, 24, .inr (.inl q_met)))] H := hP
  have hD : va_D A [(m0, .inr (11, oX11 ra (upd x0 0 0))), (ra 15, .inl (kJ, 24, .inr (.inl q_met)))] := hD
  refine W.widen (k := 0) (n := 0) (Nat.le_of_ble_eq_true rfl) (Nat.le_of_ble_eq_true rfl) ?_
  obtain rfl : r1 = 1 := iv_one w2 (by decide)
  refine lv_if_eq (tgt := 33) hx hb dX11_missing_12 (by decide) (fun c9 => absurd c9 (by decide)) (fun _ => ?_)
  refine lv_iload_n hx hb dX11_missing_15 rfl (lv_at hl 2 rfl) ?_
  refine lv_iconst (v := 1) hx hb dX11_missing_16 (by decide) ?_
  refine lv_iconst (v := 5) hx hb dX11_missing_17 (by decide) ?_
  have hPc := hP.sub (ws' := []) [] rfl
  have hDc := hD.sub (ws' := []) [] (by decide) rfl
  have hFc := va_free (wc := []) hD hS hA [] rfl
  refine va_calli (va_runS (As := [.int 2, .int 1, .int 5]) (rest := []) ⟨hx, hb, hml, hown, hts⟩ (s11_isIn_m2 l dC dI kB kI kJ kZ kC kS H.size ) (va_cwS 3 hts gX11_missing_X11_isIn rfl rfl rfl (by decide +kernel) ⟨Nat.le_of_ble_eq_true rfl, Nat.le_of_ble_eq_true rfl⟩) ⟨fun a U g mk q => by obtain ⟨q0, q1, qP, qE, qD⟩ := q; exact ⟨q0, q1, qP, kE_call qE, qD⟩, fun U hU hW => ⟨rfl, by rw [hU], by rw [hU]; exact hPc, kE_warm hW hE, hDc.weaken (fun _ _ _ _ => trivial)⟩⟩ rfl rfl hl.1 rfl (lv_room (Nat.le_of_ble_eq_true rfl)) dX11_missing_18 ⟨Nat.le_of_ble_eq_true rfl, Nat.le_of_ble_eq_true rfl⟩) hS (fun q _ h => hFc q h) hFc (fun r3 u t H1 locs ht hvm w4 hB hz1 hk1 hS => ?_)
  obtain ⟨hP1, hD1⟩ := hB
  rw [ht] at hP1
  try dsimp only at w4
  obtain ⟨hP, hD⟩ := va_join (wr := [(m0, .inr (11, oX11 ra (upd x0 0 0))), (ra 15, .inl (kJ, 24, .inr (.inl q_met)))]) (w1 := []) hP hD [] [0, 1] rfl rfl (by decide) (by decide) hk1 hFc hP1 hD1
  generalize H1 = H at hP hS ⊢
  have hP : va_P (dC, dI) vwCl [(m0, .inr (11, oX11 ra (upd x0 0 0))), (ra 15, .inl (kJ, 24, .inr (.inl q_met)))] H := hP
  have hD : va_D A [(m0, .inr (11, oX11 ra (upd x0 0 0))), (ra 15, .inl (kJ, 24, .inr (.inl q_met)))] := hD
  refine W.widen (k := 0) (n := 0) (Nat.le_of_ble_eq_true rfl) (Nat.le_of_ble_eq_true rfl) ?_
  obtain rfl : r3 = 1 := iv_one w4 (by decide)
  refine lv_if_eq (tgt := 33) hx hb dX11_missing_21 (by decide) (fun c9 => absurd c9 (by decide)) (fun _ => ?_)
  refine lv_aload_n hx hb dX11_missing_24 rfl (lv_at hl 0 rfl) ?_
  refine lv_iload_n hx hb dX11_missing_25 rfl (lv_at hl 1 rfl) ?_
  refine lv_iload_n hx hb dX11_missing_26 rfl (lv_at hl 2 rfl) ?_
  have hPc := hP.sub (ws' := [(m0, .inr (11, oX11 ra (upd x0 0 0))), (ra 15, .inl (kJ, 24, .inr (.inl q_met)))]) [0, 1] rfl
  have hDc := hD.sub (ws' := [(m0, .inr (11, oX11 ra (upd x0 0 0))), (ra 15, .inl (kJ, 24, .inr (.inl q_met)))]) [0, 1] (by decide) rfl
  have hFc := va_free (wc := [(m0, .inr (11, oX11 ra (upd x0 0 0))), (ra 15, .inl (kJ, 24, .inr (.inl q_met)))]) hD hS hA [0, 1] rfl
  refine va_calll (va_runV (As := [.int (nI k), .int 2]) (rest := []) ⟨hx, hb, hml, hown, hts⟩ (e11_missingOf_2 l dC dI kB kI kJ kZ kC kS H.size m0 ra (upd x0 0 0) k q_met (hk)) (cwV 2 hts gX11_missing_X11_missingOf rfl rfl rfl (by decide +kernel) ⟨Nat.le_of_ble_eq_true rfl, Nat.le_of_ble_eq_true rfl⟩) ⟨fun a U g mk q => by obtain ⟨q0, q1, qP, qE, qD⟩ := q; exact ⟨q0, q1, qP, kE_call qE, qD⟩, va_recv hK hP (ci := 11) (q0 := 0) rfl rfl, fun U hU hW => ⟨rfl, by rw [hU], by rw [hU]; exact hPc, kE_warm hW hE, hDc.weaken (fun _ _ _ _ => trivial)⟩⟩ rfl rfl hl.1 rfl (lv_room (Nat.le_of_ble_eq_true rfl)) dX11_missing_27 ⟨Nat.le_of_ble_eq_true rfl, Nat.le_of_ble_eq_true rfl⟩) hS (fun q _ h => hFc q h) hFc (fun r5 u t H1 locs ht hvm w6 hB hz1 hk1 hS => ?_)
  obtain ⟨f7, hP1, hD1⟩ := hB
  rw [ht] at hP1
  try dsimp only at w6
  obtain ⟨hP, hD⟩ := va_join (wr := []) (w1 := [(m0, .inr (11, oX11 ra (upd x0 0 0))), (ra 15, .inl (kJ, 24, .inr (.inl f7)))]) hP hD [0, 1] [] rfl rfl (by decide) (by decide) hk1 hFc hP1 hD1
  generalize H1 = H at hP hS ⊢
  have hP : va_P (dC, dI) vwCl [(m0, .inr (11, oX11 ra (upd x0 0 0))), (ra 15, .inl (kJ, 24, .inr (.inl f7)))] H := hP
  have hD : va_D A [(m0, .inr (11, oX11 ra (upd x0 0 0))), (ra 15, .inl (kJ, 24, .inr (.inl f7)))] := hD
  refine W.widen (k := 0) (n := 0) (Nat.le_of_ble_eq_true rfl) (Nat.le_of_ble_eq_true rfl) ?_
  subst w6
  refine lv_goto (tgt := 39) hx hb dX11_missing_30 (by decide) ?_
  have hP9 := hP.sub (ws' := [(m0, .inr (11, oX11 ra (upd x0 0 0))), (ra 15, .inl (kJ, 24, .inr (.inl f7)))]) [0, 1] rfl
  have hD9 := hD.sub (ws' := [(m0, .inr (11, oX11 ra (upd x0 0 0))), (ra 15, .inl (kJ, 24, .inr (.inl f7)))]) [0, 1] (by decide) rfl
  exact W.lret (v := 1000000000000 - kv2 k 2) hx hb hr (fun t ht hW => ⟨⟨1000000000000 - kv2 k 2, (), rfl, rfl, upd x0 0 0, f7, (fI_u hX (k := 0) ((iv_w (iv_k (by decide) (by decide) : iv 0 0 0) (by decide) (by decide)))), (show 0 = 0 from rfl), by rw [ht]; exact hP9, hD9⟩, hS.F ht⟩) hS.2.2 dX11_missing_39
def rm_s10_missing_3 : Room := { frames := 2, cells := 0, slots := 0, locals := 47 }
set_option maxHeartbeats 4000000 in
set_option maxRecDepth 100000 in
theorem s10_missing_3 (l : Launch) (dC : Nat → ClassId) (dI : Nat → Nat → Nat) (kB kI kJ kZ kC kS : ClassId) (sz : Nat) (op : Nat) (ot : Nat) (on : Nat) (dn : Nat) (rd : Nat) (oc : Nat) (d : Nat) (o : Nat) (si : Nat) (w : Nat) (se : Nat) (nb : Nat) (hi : Nat) (p_status : Nat) (oe : Nat) (ih : Nat) (mb : Nat) (p_imageStatus : Nat) (x_p : Nat → Int32) (o_met : Nat) (o_enough : Nat) (x_o : Nat → Int32) (f_o_met : Nat → Int64) (k : Nat) (hk : k ≤ 60) : Met l yX10_missing wsX10_missing rm_s10_missing_3 (va_Pc [.ref op, .int (nI k), .int 3] (fun U => U.heap.size = sz ∧ va_P (dC, dI) vwCl [(op, .inr (10, oX10 ot on dn rd oc d o si w se nb hi p_status oe ih mb p_imageStatus x_p)), (o, .inr (4, oX4 o_met o_enough x_o)), (o_met, .inl (kJ, 23, .inr (.inl f_o_met)))] U.heap ∧ kE dC dI kB kI kJ kZ kC kS U ∧ va_D (fun _ => True) [(op, .inr (10, oX10 ot on dn rd oc d o si w se nb hi p_status oe ih mb p_imageStatus x_p)), (o, .inr (4, oX4 o_met o_enough x_o)), (o_met, .inl (kJ, 23, .inr (.inl f_o_met)))])) (va_Ql (fun (r : Int64) (_ : Unit) => r = 1000000000000 - kv3 k 3) (fun _ t => ∃ (f_o_met' : Nat → Int64), va_P (dC, dI) vwCl [(op, .inr (10, oX10 ot on dn rd oc d o si w se nb hi p_status oe ih mb p_imageStatus x_p)), (o, .inr (4, oX4 o_met o_enough x_o)), (o_met, .inl (kJ, 23, .inr (.inl f_o_met')))] t.heap ∧ va_D (va_A [(op, .inr (10, oX10 ot on dn rd oc d o si w se nb hi p_status oe ih mb p_imageStatus x_p)), (o, .inr (4, oX4 o_met o_enough x_o)), (o_met, .inl (kJ, 23, .inr (.inl f_o_met)))] sz) [(op, .inr (10, oX10 ot on dn rd oc d o si w se nb hi p_status oe ih mb p_imageStatus x_p)), (o, .inr (4, oX4 o_met o_enough x_o)), (o_met, .inl (kJ, 23, .inr (.inl f_o_met')))]) (va_A [(op, .inr (10, oX10 ot on dn rd oc d o si w se nb hi p_status oe ih mb p_imageStatus x_p)), (o, .inr (4, oX4 o_met o_enough x_o)), (o_met, .inl (kJ, 23, .inr (.inl f_o_met)))] sz)) 0 0 (va_A [(op, .inr (10, oX10 ot on dn rd oc d o si w se nb hi p_status oe ih mb p_imageStatus x_p)), (o, .inr (4, oX4 o_met o_enough x_o)), (o_met, .inl (kJ, 23, .inr (.inl f_o_met)))] sz) := by
  refine Met.ofW (cc := cX10_missing) (maxL := 3) (ret := (some .long)) (by decide) rfl ?_
  intro p e s m args0 below meth c s₁ B hml hv
  obtain ⟨hargs, hsz, hP, hE, hD0⟩ := hv
  have hx := B.exec
  have hb := B.bytes
  have hr := B.returns
  have hts := atoms_spec (ws := wsX10_missing) B.pre
  have hown : s.vm.findClass RX10 = some m.cls := findClass_of_methodNamed B.named
  have hlocks := B.notSynchronized
  have hK := hE.1
  have hin10 : ∀ w ∈ wsX100, w ∈ wsX10_missing := fun _ h9 => List.mem_cons_of_mem _ (List.mem_append_left _ (List.mem_append_left _ (List.mem_append_right _ h9)))
  have hin4 : ∀ w ∈ wsX40, w ∈ wsX10_missing := fun _ h9 => List.mem_cons_of_mem _ (List.mem_append_left _ (List.mem_append_right _ h9))
  have hw_0 := hts (.fieldLink RX10 48 "PathProber" "odds" "LPathProber$Odds;") (List.mem_of_getElem? (i := 3) (by decide +kernel))
  subst hsz
  have hD := hD0.self (sz := s.heap.size)
  generalize hAe : va_A [(op, .inr (10, oX10 ot on dn rd oc d o si w se nb hi p_status oe ih mb p_imageStatus x_p)), (o, .inr (4, oX4 o_met o_enough x_o)), (o_met, .inl (kJ, 23, .inr (.inl f_o_met)))] s.heap.size = A at hD ⊢
  have hA : ∀ q : Nat, s.heap.size ≤ q → A q := fun q h => by rw [← hAe]; exact Or.inr h
  have hS : va_S A s.heap s.heap [] := va_S.rf
  have hP : va_P (dC, dI) vwCl [(op, .inr (10, oX10 ot on dn rd oc d o si w se nb hi p_status oe ih mb p_imageStatus x_p)), (o, .inr (4, oX4 o_met o_enough x_o)), (o_met, .inl (kJ, 23, .inr (.inl f_o_met)))] s.heap := hP
  have hl := lv_entry ([.ref op, .int (nI k), .int 3]) (n := 3) (Nat.le_of_ble_eq_true rfl)
  have hla : entryFrame m args0 3 = entryFrame m ([.ref op, .int (nI k), .int 3] : List Value).toArray 3 := by rw [hargs]
  rw [hla, lg_entry_eq]
  generalize (lg_sl ([.ref op, .int (nI k), .int 3]) ++ List.replicate (3 - (lg_sl ([.ref op, .int (nI k), .int 3])).length) Slot.unset).toArray = ls at hl ⊢
  have hl : lv_has ls 3 [(0, .ref op), (1, .int (nI k)), (2, .int 3)] := hl
  have hkv : iv 0 60 (nI k) := iv_nIv (by omega) (by omega) (by omega)
  refine lv_iload_n hx hb dX10_missing_0 rfl (lv_at hl 1 rfl) ?_
  refine lv_if_lt (tgt := 20) hx hb dX10_missing_1 (by decide) (fun c9 => absurd c9 (iv_nlt hkv (iv_k (by decide) (by decide) : iv 0 0 0) (by decide))) (fun _ => ?_)
  refine lv_iload_n hx hb dX10_missing_4 rfl (lv_at hl 1 rfl) ?_
  refine lv_bipush (v := 60) hx hb dX10_missing_5 (by decide) ?_
  refine lv_icmp_gt (tgt := 20) hx hb dX10_missing_7 (by decide) (fun c9 => absurd c9 (iv_nlt (iv_k (by decide) (by decide) : iv 60 60 60) hkv (by decide))) (fun _ => ?_)
  refine lv_iload_n hx hb dX10_missing_10 rfl (lv_at hl 2 rfl) ?_
  refine lv_iconst (v := 1) hx hb dX10_missing_11 (by decide) ?_
  refine lv_icmp_lt (tgt := 20) hx hb dX10_missing_12 (by decide) (fun c9 => absurd c9 (by decide)) (fun _ => ?_)
  refine lv_iload_n hx hb dX10_missing_15 rfl (lv_at hl 2 rfl) ?_
  refine lv_iconst (v := 5) hx hb dX10_missing_16 (by decide) ?_
  refine lv_icmp_le (tgt := 31) hx hb dX10_missing_17 (by decide) (fun _ => ?_) (fun c9 => absurd (by decide) c9)
  refine lv_aload_n hx hb dX10_missing_31 rfl (lv_at hl 0 rfl) ?_
  refine va_get (D := (dC, dI)) (ci := 10) (v := .ref o) (C := RX10) (T := TX10) (N := 19) hx hb hts hin10 hown hK hP 0 rfl rfl 6 (by decide) hw_0 (fun _ h9 => h9) rfl dX10_missing_32 ?_
  refine lv_iload_n hx hb dX10_missing_35 rfl (lv_at hl 1 rfl) ?_
  refine lv_iload_n hx hb dX10_missing_36 rfl (lv_at hl 2 rfl) ?_
  have hPc := hP.sub (ws' := [(o, .inr (4, oX4 o_met o_enough x_o)), (o_met, .inl (kJ, 23, .inr (.inl f_o_met)))]) [1, 2] rfl
  have hDc := hD.sub (ws' := [(o, .inr (4, oX4 o_met o_enough x_o)), (o_met, .inl (kJ, 23, .inr (.inl f_o_met)))]) [1, 2] (by decide) rfl
  have hFc := va_free (wc := [(o, .inr (4, oX4 o_met o_enough x_o)), (o_met, .inl (kJ, 23, .inr (.inl f_o_met)))]) hD hS hA [1, 2] rfl
  refine va_calll (va_runV (As := [.int (nI k), .int 3]) (rest := []) ⟨hx, hb, hml, hown, hts⟩ (e4_missed_3 l dC dI kB kI kJ kZ kC kS s.heap.size o o_met o_enough x_o k f_o_met (hk)) (cwV 2 hts gX10_missing_X4_missed rfl rfl rfl (by decide +kernel) ⟨Nat.le_of_ble_eq_true rfl, Nat.le_of_ble_eq_true rfl⟩) ⟨fun a U g mk q => by obtain ⟨q0, q1, qP, qE, qD⟩ := q; exact ⟨q0, q1, qP, kE_call qE, qD⟩, va_recv hK hP (ci := 4) (q0 := 1) rfl rfl, fun U hU hW => ⟨rfl, by rw [hU], by rw [hU]; exact hPc, kE_warm hW hE, hDc.weaken (fun _ _ _ _ => trivial)⟩⟩ rfl rfl hl.1 rfl (lv_room (Nat.le_of_ble_eq_true rfl)) dX10_missing_37 ⟨Nat.le_of_ble_eq_true rfl, Nat.le_of_ble_eq_true rfl⟩) hS (fun q _ h => hFc q h) hFc (fun r1 u t H1 locs ht hvm w2 hB hz1 hk1 hS => ?_)
  obtain ⟨f3, hP1, hD1⟩ := hB
  rw [ht] at hP1
  try dsimp only at w2
  obtain ⟨hP, hD⟩ := va_join (wr := [(op, .inr (10, oX10 ot on dn rd oc d o si w se nb hi p_status oe ih mb p_imageStatus x_p))]) (w1 := [(o, .inr (4, oX4 o_met o_enough x_o)), (o_met, .inl (kJ, 23, .inr (.inl f3)))]) hP hD [1, 2] [0] rfl rfl (by decide) (by decide) hk1 hFc hP1 hD1
  generalize H1 = H at hP hS ⊢
  have hP : va_P (dC, dI) vwCl [(op, .inr (10, oX10 ot on dn rd oc d o si w se nb hi p_status oe ih mb p_imageStatus x_p)), (o, .inr (4, oX4 o_met o_enough x_o)), (o_met, .inl (kJ, 23, .inr (.inl f3)))] H := hP
  have hD : va_D A [(op, .inr (10, oX10 ot on dn rd oc d o si w se nb hi p_status oe ih mb p_imageStatus x_p)), (o, .inr (4, oX4 o_met o_enough x_o)), (o_met, .inl (kJ, 23, .inr (.inl f3)))] := hD
  refine W.widen (k := 0) (n := 0) (Nat.le_of_ble_eq_true rfl) (Nat.le_of_ble_eq_true rfl) ?_
  subst w2
  have hP9 := hP.sub (ws' := [(op, .inr (10, oX10 ot on dn rd oc d o si w se nb hi p_status oe ih mb p_imageStatus x_p)), (o, .inr (4, oX4 o_met o_enough x_o)), (o_met, .inl (kJ, 23, .inr (.inl f3)))]) [0, 1, 2] rfl
  have hD9 := hD.sub (ws' := [(op, .inr (10, oX10 ot on dn rd oc d o si w se nb hi p_status oe ih mb p_imageStatus x_p)), (o, .inr (4, oX4 o_met o_enough x_o)), (o_met, .inl (kJ, 23, .inr (.inl f3)))]) [0, 1, 2] (by decide) rfl
  exact W.lret (v := 1000000000000 - kv3 k 3) hx hb hr (fun t ht hW => ⟨⟨1000000000000 - kv3 k 3, (), rfl, rfl, f3, by rw [ht]; exact hP9, hD9⟩, hS.F ht⟩) hS.2.2 dX10_missing_40
def rm_sL_missing_3 : Room := { frames := 3, cells := 0, slots := 0, locals := 69 }
set_option maxHeartbeats 4000000 in
set_option maxRecDepth 100000 in
theorem sL_missing_3 (l : Launch) (hst : l.stackTraces = false) (dC : Nat → ClassId) (dI : Nat → Nat → Nat) (kB kI kJ kZ kC kS : ClassId) (sz : Nat) (op : Nat) (ot : Nat) (on : Nat) (dn : Nat) (rd : Nat) (oc : Nat) (d : Nat) (o : Nat) (si : Nat) (w : Nat) (se : Nat) (nb : Nat) (hi : Nat) (p_status : Nat) (oe : Nat) (ih : Nat) (mb : Nat) (p_imageStatus : Nat) (x_p : Nat → Int32) (o_met : Nat) (o_enough : Nat) (x_o : Nat → Int32) (f_o_met : Nat → Int64) (k : Nat) (ou : Nat) (fo : Nat → Int64) (hk : k ≤ 60) : Met l yL_missing wsL_missing rm_sL_missing_3 (va_Pc [.ref op, .int (nI k), .int 3, .ref ou] (fun U => U.heap.size = sz ∧ va_P (dC, dI) vwCl [(op, .inr (10, oX10 ot on dn rd oc d o si w se nb hi p_status oe ih mb p_imageStatus x_p)), (o, .inr (4, oX4 o_met o_enough x_o)), (o_met, .inl (kJ, 23, .inr (.inl f_o_met))), (ou, .inl (kJ, 1, .inr (.inl fo)))] U.heap ∧ kE dC dI kB kI kJ kZ kC kS U ∧ va_D (fun _ => True) [(op, .inr (10, oX10 ot on dn rd oc d o si w se nb hi p_status oe ih mb p_imageStatus x_p)), (o, .inr (4, oX4 o_met o_enough x_o)), (o_met, .inl (kJ, 23, .inr (.inl f_o_met))), (ou, .inl (kJ, 1, .inr (.inl fo)))] ∧ kX U ∧ kT (va_A [(op, .inr (10, oX10 ot on dn rd oc d o si w se nb hi p_status oe ih mb p_imageStatus x_p)), (o, .inr (4, oX4 o_met o_enough x_o)), (o_met, .inl (kJ, 23, .inr (.inl f_o_met))), (ou, .inl (kJ, 1, .inr (.inl fo)))] sz) U)) (va_Qi (fun (r : Int32) (_ : Unit) => r = 0) (fun _ t => ∃ (f_o_met' : Nat → Int64) (fo' : Nat → Int64), (fo' 0 = 1000000000000 - kv3 k 3) ∧ va_P (dC, dI) vwCl [(op, .inr (10, oX10 ot on dn rd oc d o si w se nb hi p_status oe ih mb p_imageStatus x_p)), (o, .inr (4, oX4 o_met o_enough x_o)), (o_met, .inl (kJ, 23, .inr (.inl f_o_met'))), (ou, .inl (kJ, 1, .inr (.inl fo')))] t.heap ∧ va_D (va_A [(op, .inr (10, oX10 ot on dn rd oc d o si w se nb hi p_status oe ih mb p_imageStatus x_p)), (o, .inr (4, oX4 o_met o_enough x_o)), (o_met, .inl (kJ, 23, .inr (.inl f_o_met))), (ou, .inl (kJ, 1, .inr (.inl fo)))] sz) [(op, .inr (10, oX10 ot on dn rd oc d o si w se nb hi p_status oe ih mb p_imageStatus x_p)), (o, .inr (4, oX4 o_met o_enough x_o)), (o_met, .inl (kJ, 23, .inr (.inl f_o_met'))), (ou, .inl (kJ, 1, .inr (.inl fo')))]) (va_A [(op, .inr (10, oX10 ot on dn rd oc d o si w se nb hi p_status oe ih mb p_imageStatus x_p)), (o, .inr (4, oX4 o_met o_enough x_o)), (o_met, .inl (kJ, 23, .inr (.inl f_o_met))), (ou, .inl (kJ, 1, .inr (.inl fo)))] sz)) 0 0 (va_A [(op, .inr (10, oX10 ot on dn rd oc d o si w se nb hi p_status oe ih mb p_imageStatus x_p)), (o, .inr (4, oX4 o_met o_enough x_o)), (o_met, .inl (kJ, 23, .inr (.inl f_o_met))), (ou, .inl (kJ, 1, .inr (.inl fo)))] sz) := by
  refine va_MetW (cc := cL_missing) (maxL := 5) (ret := (some .int)) (by decide) rfl ?_
  intro p e s m args0 below meth c s₁ B hml hv
  obtain ⟨hargs, hsz, hP, hE, hD0, hXs, hT⟩ := hv
  have hx := B.exec
  have hb := B.bytes
  have hr := B.returns
  have hts := atoms_spec (ws := wsL_missing) B.pre
  have hown : s.vm.findClass RL = some m.cls := findClass_of_methodNamed B.named
  have hlocks := B.notSynchronized
  have hK := hE.1
  have hin10 : ∀ w ∈ wsX100, w ∈ wsL_missing := fun _ h9 => List.mem_cons_of_mem _ (List.mem_append_left _ (List.mem_append_left _ (List.mem_append_right _ h9)))
  have hin4 : ∀ w ∈ wsX40, w ∈ wsL_missing := fun _ h9 => List.mem_cons_of_mem _ (List.mem_append_left _ (List.mem_append_right _ h9))
  subst hsz
  have hD := hD0.self (sz := s.heap.size)
  generalize hAe : va_A [(op, .inr (10, oX10 ot on dn rd oc d o si w se nb hi p_status oe ih mb p_imageStatus x_p)), (o, .inr (4, oX4 o_met o_enough x_o)), (o_met, .inl (kJ, 23, .inr (.inl f_o_met))), (ou, .inl (kJ, 1, .inr (.inl fo)))] s.heap.size = A at hD hT ⊢
  have hA : ∀ q : Nat, s.heap.size ≤ q → A q := fun q h => by rw [← hAe]; exact Or.inr h
  have hS : va_S A s.heap s.heap [] := va_S.rf
  have hP : va_P (dC, dI) vwCl [(op, .inr (10, oX10 ot on dn rd oc d o si w se nb hi p_status oe ih mb p_imageStatus x_p)), (o, .inr (4, oX4 o_met o_enough x_o)), (o_met, .inl (kJ, 23, .inr (.inl f_o_met))), (ou, .inl (kJ, 1, .inr (.inl fo)))] s.heap := hP
  have hl := lv_entry ([.ref op, .int (nI k), .int 3, .ref ou]) (n := 5) (Nat.le_of_ble_eq_true rfl)
  have hla : entryFrame m args0 5 = entryFrame m ([.ref op, .int (nI k), .int 3, .ref ou] : List Value).toArray 5 := by rw [hargs]
  rw [hla, lg_entry_eq]
  generalize (lg_sl ([.ref op, .int (nI k), .int 3, .ref ou]) ++ List.replicate (5 - (lg_sl ([.ref op, .int (nI k), .int 3, .ref ou])).length) Slot.unset).toArray = ls at hl ⊢
  have hl : lv_has ls 5 [(0, .ref op), (1, .int (nI k)), (2, .int 3), (3, .ref ou)] := hl
  have hkv : iv 0 60 (nI k) := iv_nIv (by omega) (by omega) (by omega)
  refine lv_aload_n hx hb dL_missing_0 rfl (lv_at hl 3 rfl) ?_
  refine lv_iconst (v := 0) hx hb dL_missing_1 (by decide) ?_
  refine lv_aload_n hx hb dL_missing_2 rfl (lv_at hl 0 rfl) ?_
  refine lv_iload_n hx hb dL_missing_3 rfl (lv_at hl 1 rfl) ?_
  refine lv_iload_n hx hb dL_missing_4 rfl (lv_at hl 2 rfl) ?_
  have hPc := hP.sub (ws' := [(op, .inr (10, oX10 ot on dn rd oc d o si w se nb hi p_status oe ih mb p_imageStatus x_p)), (o, .inr (4, oX4 o_met o_enough x_o)), (o_met, .inl (kJ, 23, .inr (.inl f_o_met)))]) [0, 1, 2] rfl
  have hDc := hD.sub (ws' := [(op, .inr (10, oX10 ot on dn rd oc d o si w se nb hi p_status oe ih mb p_imageStatus x_p)), (o, .inr (4, oX4 o_met o_enough x_o)), (o_met, .inl (kJ, 23, .inr (.inl f_o_met)))]) [0, 1, 2] (by decide) rfl
  have hFc := va_free (wc := [(op, .inr (10, oX10 ot on dn rd oc d o si w se nb hi p_status oe ih mb p_imageStatus x_p)), (o, .inr (4, oX4 o_met o_enough x_o)), (o_met, .inl (kJ, 23, .inr (.inl f_o_met)))]) hD hS hA [0, 1, 2] rfl
  refine va_calll (va_runV (As := [.int (nI k), .int 3]) (rest := [.int 0, .ref ou]) ⟨hx, hb, hml, hown, hts⟩ (s10_missing_3 l dC dI kB kI kJ kZ kC kS s.heap.size op ot on dn rd oc d o si w se nb hi p_status oe ih mb p_imageStatus x_p o_met o_enough x_o f_o_met k (hk)) (cwV 2 hts gL_missing_X10_missing rfl rfl rfl (by decide +kernel) ⟨Nat.le_of_ble_eq_true rfl, Nat.le_of_ble_eq_true rfl⟩) ⟨fun a U g mk q => by obtain ⟨q0, q1, qP, qE, qD⟩ := q; exact ⟨q0, q1, qP, kE_call qE, qD⟩, va_recv hK hP (ci := 10) (q0 := 0) rfl rfl, fun U hU hW => ⟨rfl, by rw [hU], by rw [hU]; exact hPc, kE_warm hW hE, hDc.weaken (fun _ _ _ _ => trivial)⟩⟩ rfl rfl hl.1 rfl (lv_room (Nat.le_of_ble_eq_true rfl)) dL_missing_5 ⟨Nat.le_of_ble_eq_true rfl, Nat.le_of_ble_eq_true rfl⟩) hS (fun q _ h => hFc q h) hFc (fun r1 u t H1 locs ht hvm w2 hB hz1 hk1 hS => ?_)
  obtain ⟨f3, hP1, hD1⟩ := hB
  rw [ht] at hP1
  try dsimp only at w2
  obtain ⟨hP, hD⟩ := va_join (wr := [(ou, .inl (kJ, 1, .inr (.inl fo)))]) (w1 := [(op, .inr (10, oX10 ot on dn rd oc d o si w se nb hi p_status oe ih mb p_imageStatus x_p)), (o, .inr (4, oX4 o_met o_enough x_o)), (o_met, .inl (kJ, 23, .inr (.inl f3)))]) hP hD [0, 1, 2] [3] rfl rfl (by decide) (by decide) hk1 hFc hP1 hD1
  generalize H1 = H at hP hS ⊢
  have hP : va_P (dC, dI) vwCl [(ou, .inl (kJ, 1, .inr (.inl fo))), (op, .inr (10, oX10 ot on dn rd oc d o si w se nb hi p_status oe ih mb p_imageStatus x_p)), (o, .inr (4, oX4 o_met o_enough x_o)), (o_met, .inl (kJ, 23, .inr (.inl f3)))] H := hP
  have hD : va_D A [(ou, .inl (kJ, 1, .inr (.inl fo))), (op, .inr (10, oX10 ot on dn rd oc d o si w se nb hi p_status oe ih mb p_imageStatus x_p)), (o, .inr (4, oX4 o_met o_enough x_o)), (o_met, .inl (kJ, 23, .inr (.inl f3)))] := hD
  refine W.widen (k := 0) (n := 0) (Nat.le_of_ble_eq_true rfl) (Nat.le_of_ble_eq_true rfl) ?_
  subst w2
  refine va_last hx hb hK hP hD hS 0 2 rfl rfl (vp_in_nI (n := 0) (by decide) (by decide)) dL_missing_8 (fun H locs hP hD hS => ?_)
  have hP : va_P (dC, dI) vwCl [(ou, .inl (kJ, 1, .inr (.inl (vp_updL fo 0 (1000000000000 - kv3 k 3))))), (op, .inr (10, oX10 ot on dn rd oc d o si w se nb hi p_status oe ih mb p_imageStatus x_p)), (o, .inr (4, oX4 o_met o_enough x_o)), (o_met, .inl (kJ, 23, .inr (.inl f3)))] H := hP
  have hD : va_D A [(ou, .inl (kJ, 1, .inr (.inl (vp_updL fo 0 (1000000000000 - kv3 k 3))))), (op, .inr (10, oX10 ot on dn rd oc d o si w se nb hi p_status oe ih mb p_imageStatus x_p)), (o, .inr (4, oX4 o_met o_enough x_o)), (o_met, .inl (kJ, 23, .inr (.inl f3)))] := hD
  refine lv_goto (tgt := 16) hx hb dL_missing_9 (by decide) ?_
  refine lv_iconst (v := 0) hx hb dL_missing_16 (by decide) ?_
  have hP9 := hP.sub (ws' := [(op, .inr (10, oX10 ot on dn rd oc d o si w se nb hi p_status oe ih mb p_imageStatus x_p)), (o, .inr (4, oX4 o_met o_enough x_o)), (o_met, .inl (kJ, 23, .inr (.inl f3))), (ou, .inl (kJ, 1, .inr (.inl (vp_updL fo 0 (1000000000000 - kv3 k 3)))))]) [1, 2, 3, 0] rfl
  have hD9 := hD.sub (ws' := [(op, .inr (10, oX10 ot on dn rd oc d o si w se nb hi p_status oe ih mb p_imageStatus x_p)), (o, .inr (4, oX4 o_met o_enough x_o)), (o_met, .inl (kJ, 23, .inr (.inl f3))), (ou, .inl (kJ, 1, .inr (.inl (vp_updL fo 0 (1000000000000 - kv3 k 3)))))]) [1, 2, 3, 0] (by decide) rfl
  exact W.iret (v := 0) hx hb hr (fun t ht hW => ⟨⟨0, (), rfl, rfl, f3, vp_updL fo 0 (1000000000000 - kv3 k 3), (show (vp_updL fo 0 (1000000000000 - kv3 k 3)) 0 = 1000000000000 - kv3 k 3 from rfl), by rw [ht]; exact hP9, hD9⟩, hS.F ht⟩) hS.2.2 dL_missing_17
def rm_s11_missing_3 : Room := { frames := 1, cells := 0, slots := 0, locals := 26 }
set_option maxHeartbeats 4000000 in
set_option maxRecDepth 100000 in
theorem s11_missing_3 (l : Launch) (dC : Nat → ClassId) (dI : Nat → Nat → Nat) (kB kI kJ kZ kC kS : ClassId) (sz : Nat) (m0 : Nat) (ra : Nat → Nat) (x0 : Nat → Int32) (q_met : Nat → Int64) (k : Nat) (hX : fI lX11 hX11 x0) (hk : k ≤ 60) : Met l yX11_missing wsX11_missing rm_s11_missing_3 (va_Pc [.ref m0, .int (nI k), .int 3] (fun U => U.heap.size = sz ∧ va_P (dC, dI) vwCl [(m0, .inr (11, oX11 ra x0)), (ra 15, .inl (kJ, 24, .inr (.inl q_met)))] U.heap ∧ kE dC dI kB kI kJ kZ kC kS U ∧ va_D (fun _ => True) [(m0, .inr (11, oX11 ra x0)), (ra 15, .inl (kJ, 24, .inr (.inl q_met)))])) (va_Ql (fun (r : Int64) (_ : Unit) => r = 1000000000000 - kv3 k 3) (fun _ t => ∃ (x0' : Nat → Int32) (q_met' : Nat → Int64), fI lX11 hX11 x0' ∧ (x0' 0 = 0) ∧ va_P (dC, dI) vwCl [(m0, .inr (11, oX11 ra x0')), (ra 15, .inl (kJ, 24, .inr (.inl q_met')))] t.heap ∧ va_D (va_A [(m0, .inr (11, oX11 ra x0)), (ra 15, .inl (kJ, 24, .inr (.inl q_met)))] sz) [(m0, .inr (11, oX11 ra x0')), (ra 15, .inl (kJ, 24, .inr (.inl q_met')))]) (va_A [(m0, .inr (11, oX11 ra x0)), (ra 15, .inl (kJ, 24, .inr (.inl q_met)))] sz)) 0 0 (va_A [(m0, .inr (11, oX11 ra x0)), (ra 15, .inl (kJ, 24, .inr (.inl q_met)))] sz) := by
  refine Met.ofW (cc := cX11_missing) (maxL := 3) (ret := (some .long)) (by decide) rfl ?_
  intro p e s m args0 below meth c s₁ B hml hv
  obtain ⟨hargs, hsz, hP, hE, hD0⟩ := hv
  have hx := B.exec
  have hb := B.bytes
  have hr := B.returns
  have hts := atoms_spec (ws := wsX11_missing) B.pre
  have hown : s.vm.findClass RX11 = some m.cls := findClass_of_methodNamed B.named
  have hlocks := B.notSynchronized
  have hK := hE.1
  have hin11 : ∀ w ∈ wsX110, w ∈ wsX11_missing := fun _ h9 => List.mem_cons_of_mem _ (List.mem_append_right _ h9)
  have hw_0 := hts (.fieldLink RX11 142 "PathProberModel" "code" "I") (List.mem_of_getElem? (i := 1) (by decide +kernel))
  subst hsz
  have hD := hD0.self (sz := s.heap.size)
  generalize hAe : va_A [(m0, .inr (11, oX11 ra x0)), (ra 15, .inl (kJ, 24, .inr (.inl q_met)))] s.heap.size = A at hD ⊢
  have hA : ∀ q : Nat, s.heap.size ≤ q → A q := fun q h => by rw [← hAe]; exact Or.inr h
  have hS : va_S A s.heap s.heap [] := va_S.rf
  have hP : va_P (dC, dI) vwCl [(m0, .inr (11, oX11 ra x0)), (ra 15, .inl (kJ, 24, .inr (.inl q_met)))] s.heap := hP
  have hl := lv_entry ([.ref m0, .int (nI k), .int 3]) (n := 3) (Nat.le_of_ble_eq_true rfl)
  have hla : entryFrame m args0 3 = entryFrame m ([.ref m0, .int (nI k), .int 3] : List Value).toArray 3 := by rw [hargs]
  rw [hla, lg_entry_eq]
  generalize (lg_sl ([.ref m0, .int (nI k), .int 3]) ++ List.replicate (3 - (lg_sl ([.ref m0, .int (nI k), .int 3])).length) Slot.unset).toArray = ls at hl ⊢
  have hl : lv_has ls 3 [(0, .ref m0), (1, .int (nI k)), (2, .int 3)] := hl
  have hkv : iv 0 60 (nI k) := iv_nIv (by omega) (by omega) (by omega)
  refine lv_aload_n hx hb dX11_missing_0 rfl (lv_at hl 0 rfl) ?_
  refine lv_iconst (v := 0) hx hb dX11_missing_1 (by decide) ?_
  refine va_put (D := (dC, dI)) (ci := 11) (v := .int 0) (ty := .int) (C := RX11) (T := TX11) (N := 61) hx hb hts hin11 tyX11 tyX11_ok nmX11 hown hK hP hD hS 0 rfl rfl 2 (by decide) hw_0 (fun _ h9 => h9) rfl (by decide +kernel) rfl rfl (Nat.le_of_ble_eq_true rfl) dX11_missing_2 (fun H locs hP hD hS => ?_)
  have hP : va_P (dC, dI) vwCl [(m0, .inr (11, oX11 ra (upd x0 0 0))), (ra 15, .inl (kJ, 24, .inr (.inl q_met)))] H := hP
  have hD : va_D A [(m0, .inr (11, oX11 ra (upd x0 0 0))), (ra 15, .inl (kJ, 24, .inr (.inl q_met)))] := hD
  refine lv_iload_n hx hb dX11_missing_5 rfl (lv_at hl 1 rfl) ?_
  refine lv_iconst (v := 0) hx hb dX11_missing_6 (by decide) ?_
  refine lv_bipush (v := 60) hx hb dX11_missing_7 (by decide) ?_
  have hPc := hP.sub (ws' := []) [] rfl
  have hDc := hD.sub (ws' := []) [] (by decide) rfl
  have hFc := va_free (wc := []) hD hS hA [] rfl
  refine va_calli (va_runS (As := [.int (nI k), .int 0, .int 60]) (rest := []) ⟨hx, hb, hml, hown, hts⟩ (s11_isIn_60 l dC dI kB kI kJ kZ kC kS H.size (nI k) (hkv)) (va_cwS 3 hts gX11_missing_X11_isIn rfl rfl rfl (by decide +kernel) ⟨Nat.le_of_ble_eq_true rfl, Nat.le_of_ble_eq_true rfl⟩) ⟨fun a U g mk q => by obtain ⟨q0, q1, qP, qE, qD⟩ := q; exact ⟨q0, q1, qP, kE_call qE, qD⟩, fun U hU hW => ⟨rfl, by rw [hU], by rw [hU]; exact hPc, kE_warm hW hE, hDc.weaken (fun _ _ _ _ => trivial)⟩⟩ rfl rfl hl.1 rfl (lv_room (Nat.le_of_ble_eq_true rfl)) dX11_missing_9 ⟨Nat.le_of_ble_eq_true rfl, Nat.le_of_ble_eq_true rfl⟩) hS (fun q _ h => hFc q h) hFc (fun r1 u t H1 locs ht hvm w2 hB hz1 hk1 hS => ?_)
  obtain ⟨hP1, hD1⟩ := hB
  rw [ht] at hP1
  try dsimp only at w2
  obtain ⟨hP, hD⟩ := va_join (wr := [(m0, .inr (11, oX11 ra (upd x0 0 0))), (ra 15, .inl (kJ, 24, .inr (.inl q_met)))]) (w1 := []) hP hD [] [0, 1] rfl rfl (by decide) (by decide) hk1 hFc hP1 hD1
  generalize H1 = H at hP hS ⊢
  have hP : va_P (dC, dI) vwCl [(m0, .inr (11, oX11 ra (upd x0 0 0))), (ra 15, .inl (kJ, 24, .inr (.inl q_met)))] H := hP
  have hD : va_D A [(m0, .inr (11, oX11 ra (upd x0 0 0))), (ra 15, .inl (kJ, 24, .inr (.inl q_met)))] := hD
  refine W.widen (k := 0) (n := 0) (Nat.le_of_ble_eq_true rfl) (Nat.le_of_ble_eq_true rfl) ?_
  obtain rfl : r1 = 1 := iv_one w2 (by decide)
  refine lv_if_eq (tgt := 33) hx hb dX11_missing_12 (by decide) (fun c9 => absurd c9 (by decide)) (fun _ => ?_)
  refine lv_iload_n hx hb dX11_missing_15 rfl (lv_at hl 2 rfl) ?_
  refine lv_iconst (v := 1) hx hb dX11_missing_16 (by decide) ?_
  refine lv_iconst (v := 5) hx hb dX11_missing_17 (by decide) ?_
  have hPc := hP.sub (ws' := []) [] rfl
  have hDc := hD.sub (ws' := []) [] (by decide) rfl
  have hFc := va_free (wc := []) hD hS hA [] rfl
  refine va_calli (va_runS (As := [.int 3, .int 1, .int 5]) (rest := []) ⟨hx, hb, hml, hown, hts⟩ (s11_isIn_m3 l dC dI kB kI kJ kZ kC kS H.size ) (va_cwS 3 hts gX11_missing_X11_isIn rfl rfl rfl (by decide +kernel) ⟨Nat.le_of_ble_eq_true rfl, Nat.le_of_ble_eq_true rfl⟩) ⟨fun a U g mk q => by obtain ⟨q0, q1, qP, qE, qD⟩ := q; exact ⟨q0, q1, qP, kE_call qE, qD⟩, fun U hU hW => ⟨rfl, by rw [hU], by rw [hU]; exact hPc, kE_warm hW hE, hDc.weaken (fun _ _ _ _ => trivial)⟩⟩ rfl rfl hl.1 rfl (lv_room (Nat.le_of_ble_eq_true rfl)) dX11_missing_18 ⟨Nat.le_of_ble_eq_true rfl, Nat.le_of_ble_eq_true rfl⟩) hS (fun q _ h => hFc q h) hFc (fun r3 u t H1 locs ht hvm w4 hB hz1 hk1 hS => ?_)
  obtain ⟨hP1, hD1⟩ := hB
  rw [ht] at hP1
  try dsimp only at w4
  obtain ⟨hP, hD⟩ := va_join (wr := [(m0, .inr (11, oX11 ra (upd x0 0 0))), (ra 15, .inl (kJ, 24, .inr (.inl q_met)))]) (w1 := []) hP hD [] [0, 1] rfl rfl (by decide) (by decide) hk1 hFc hP1 hD1
  generalize H1 = H at hP hS ⊢
  have hP : va_P (dC, dI) vwCl [(m0, .inr (11, oX11 ra (upd x0 0 0))), (ra 15, .inl (kJ, 24, .inr (.inl q_met)))] H := hP
  have hD : va_D A [(m0, .inr (11, oX11 ra (upd x0 0 0))), (ra 15, .inl (kJ, 24, .inr (.inl q_met)))] := hD
  refine W.widen (k := 0) (n := 0) (Nat.le_of_ble_eq_true rfl) (Nat.le_of_ble_eq_true rfl) ?_
  obtain rfl : r3 = 1 := iv_one w4 (by decide)
  refine lv_if_eq (tgt := 33) hx hb dX11_missing_21 (by decide) (fun c9 => absurd c9 (by decide)) (fun _ => ?_)
  refine lv_aload_n hx hb dX11_missing_24 rfl (lv_at hl 0 rfl) ?_
  refine lv_iload_n hx hb dX11_missing_25 rfl (lv_at hl 1 rfl) ?_
  refine lv_iload_n hx hb dX11_missing_26 rfl (lv_at hl 2 rfl) ?_
  have hPc := hP.sub (ws' := [(m0, .inr (11, oX11 ra (upd x0 0 0))), (ra 15, .inl (kJ, 24, .inr (.inl q_met)))]) [0, 1] rfl
  have hDc := hD.sub (ws' := [(m0, .inr (11, oX11 ra (upd x0 0 0))), (ra 15, .inl (kJ, 24, .inr (.inl q_met)))]) [0, 1] (by decide) rfl
  have hFc := va_free (wc := [(m0, .inr (11, oX11 ra (upd x0 0 0))), (ra 15, .inl (kJ, 24, .inr (.inl q_met)))]) hD hS hA [0, 1] rfl
  refine va_calll (va_runV (As := [.int (nI k), .int 3]) (rest := []) ⟨hx, hb, hml, hown, hts⟩ (e11_missingOf_3 l dC dI kB kI kJ kZ kC kS H.size m0 ra (upd x0 0 0) k q_met (hk)) (cwV 2 hts gX11_missing_X11_missingOf rfl rfl rfl (by decide +kernel) ⟨Nat.le_of_ble_eq_true rfl, Nat.le_of_ble_eq_true rfl⟩) ⟨fun a U g mk q => by obtain ⟨q0, q1, qP, qE, qD⟩ := q; exact ⟨q0, q1, qP, kE_call qE, qD⟩, va_recv hK hP (ci := 11) (q0 := 0) rfl rfl, fun U hU hW => ⟨rfl, by rw [hU], by rw [hU]; exact hPc, kE_warm hW hE, hDc.weaken (fun _ _ _ _ => trivial)⟩⟩ rfl rfl hl.1 rfl (lv_room (Nat.le_of_ble_eq_true rfl)) dX11_missing_27 ⟨Nat.le_of_ble_eq_true rfl, Nat.le_of_ble_eq_true rfl⟩) hS (fun q _ h => hFc q h) hFc (fun r5 u t H1 locs ht hvm w6 hB hz1 hk1 hS => ?_)
  obtain ⟨f7, hP1, hD1⟩ := hB
  rw [ht] at hP1
  try dsimp only at w6
  obtain ⟨hP, hD⟩ := va_join (wr := []) (w1 := [(m0, .inr (11, oX11 ra (upd x0 0 0))), (ra 15, .inl (kJ, 24, .inr (.inl f7)))]) hP hD [0, 1] [] rfl rfl (by decide) (by decide) hk1 hFc hP1 hD1
  generalize H1 = H at hP hS ⊢
  have hP : va_P (dC, dI) vwCl [(m0, .inr (11, oX11 ra (upd x0 0 0))), (ra 15, .inl (kJ, 24, .inr (.inl f7)))] H := hP
  have hD : va_D A [(m0, .inr (11, oX11 ra (upd x0 0 0))), (ra 15, .inl (kJ, 24, .inr (.inl f7)))] := hD
  refine W.widen (k := 0) (n := 0) (Nat.le_of_ble_eq_true rfl) (Nat.le_of_ble_eq_true rfl) ?_
  subst w6
  refine lv_goto (tgt := 39) hx hb dX11_missing_30 (by decide) ?_
  have hP9 := hP.sub (ws' := [(m0, .inr (11, oX11 ra (upd x0 0 0))), (ra 15, .inl (kJ, 24, .inr (.inl f7)))]) [0, 1] rfl
  have hD9 := hD.sub (ws' := [(m0, .inr (11, oX11 ra (upd x0 0 0))), (ra 15, .inl (kJ, 24, .inr (.inl f7)))]) [0, 1] (by decide) rfl
  exact W.lret (v := 1000000000000 - kv3 k 3) hx hb hr (fun t ht hW => ⟨⟨1000000000000 - kv3 k 3, (), rfl, rfl, upd x0 0 0, f7, (fI_u hX (k := 0) ((iv_w (iv_k (by decide) (by decide) : iv 0 0 0) (by decide) (by decide)))), (show 0 = 0 from rfl), by rw [ht]; exact hP9, hD9⟩, hS.F ht⟩) hS.2.2 dX11_missing_39
def rm_s10_missing_4 : Room := { frames := 2, cells := 0, slots := 0, locals := 47 }
set_option maxHeartbeats 4000000 in
set_option maxRecDepth 100000 in
theorem s10_missing_4 (l : Launch) (dC : Nat → ClassId) (dI : Nat → Nat → Nat) (kB kI kJ kZ kC kS : ClassId) (sz : Nat) (op : Nat) (ot : Nat) (on : Nat) (dn : Nat) (rd : Nat) (oc : Nat) (d : Nat) (o : Nat) (si : Nat) (w : Nat) (se : Nat) (nb : Nat) (hi : Nat) (p_status : Nat) (oe : Nat) (ih : Nat) (mb : Nat) (p_imageStatus : Nat) (x_p : Nat → Int32) (o_met : Nat) (o_enough : Nat) (x_o : Nat → Int32) (f_o_met : Nat → Int64) (k : Nat) (hk : k ≤ 60) : Met l yX10_missing wsX10_missing rm_s10_missing_4 (va_Pc [.ref op, .int (nI k), .int 4] (fun U => U.heap.size = sz ∧ va_P (dC, dI) vwCl [(op, .inr (10, oX10 ot on dn rd oc d o si w se nb hi p_status oe ih mb p_imageStatus x_p)), (o, .inr (4, oX4 o_met o_enough x_o)), (o_met, .inl (kJ, 23, .inr (.inl f_o_met)))] U.heap ∧ kE dC dI kB kI kJ kZ kC kS U ∧ va_D (fun _ => True) [(op, .inr (10, oX10 ot on dn rd oc d o si w se nb hi p_status oe ih mb p_imageStatus x_p)), (o, .inr (4, oX4 o_met o_enough x_o)), (o_met, .inl (kJ, 23, .inr (.inl f_o_met)))])) (va_Ql (fun (r : Int64) (_ : Unit) => r = 1000000000000 - kv4 k 4) (fun _ t => ∃ (f_o_met' : Nat → Int64), va_P (dC, dI) vwCl [(op, .inr (10, oX10 ot on dn rd oc d o si w se nb hi p_status oe ih mb p_imageStatus x_p)), (o, .inr (4, oX4 o_met o_enough x_o)), (o_met, .inl (kJ, 23, .inr (.inl f_o_met')))] t.heap ∧ va_D (va_A [(op, .inr (10, oX10 ot on dn rd oc d o si w se nb hi p_status oe ih mb p_imageStatus x_p)), (o, .inr (4, oX4 o_met o_enough x_o)), (o_met, .inl (kJ, 23, .inr (.inl f_o_met)))] sz) [(op, .inr (10, oX10 ot on dn rd oc d o si w se nb hi p_status oe ih mb p_imageStatus x_p)), (o, .inr (4, oX4 o_met o_enough x_o)), (o_met, .inl (kJ, 23, .inr (.inl f_o_met')))]) (va_A [(op, .inr (10, oX10 ot on dn rd oc d o si w se nb hi p_status oe ih mb p_imageStatus x_p)), (o, .inr (4, oX4 o_met o_enough x_o)), (o_met, .inl (kJ, 23, .inr (.inl f_o_met)))] sz)) 0 0 (va_A [(op, .inr (10, oX10 ot on dn rd oc d o si w se nb hi p_status oe ih mb p_imageStatus x_p)), (o, .inr (4, oX4 o_met o_enough x_o)), (o_met, .inl (kJ, 23, .inr (.inl f_o_met)))] sz) := by
  refine Met.ofW (cc := cX10_missing) (maxL := 3) (ret := (some .long)) (by decide) rfl ?_
  intro p e s m args0 below meth c s₁ B hml hv
  obtain ⟨hargs, hsz, hP, hE, hD0⟩ := hv
  have hx := B.exec
  have hb := B.bytes
  have hr := B.returns
  have hts := atoms_spec (ws := wsX10_missing) B.pre
  have hown : s.vm.findClass RX10 = some m.cls := findClass_of_methodNamed B.named
  have hlocks := B.notSynchronized
  have hK := hE.1
  have hin10 : ∀ w ∈ wsX100, w ∈ wsX10_missing := fun _ h9 => List.mem_cons_of_mem _ (List.mem_append_left _ (List.mem_append_left _ (List.mem_append_right _ h9)))
  have hin4 : ∀ w ∈ wsX40, w ∈ wsX10_missing := fun _ h9 => List.mem_cons_of_mem _ (List.mem_append_left _ (List.mem_append_right _ h9))
  have hw_0 := hts (.fieldLink RX10 48 "PathProber" "odds" "LPathProber$Odds;") (List.mem_of_getElem? (i := 3) (by decide +kernel))
  subst hsz
  have hD := hD0.self (sz := s.heap.size)
  generalize hAe : va_A [(op, .inr (10, oX10 ot on dn rd oc d o si w se nb hi p_status oe ih mb p_imageStatus x_p)), (o, .inr (4, oX4 o_met o_enough x_o)), (o_met, .inl (kJ, 23, .inr (.inl f_o_met)))] s.heap.size = A at hD ⊢
  have hA : ∀ q : Nat, s.heap.size ≤ q → A q := fun q h => by rw [← hAe]; exact Or.inr h
  have hS : va_S A s.heap s.heap [] := va_S.rf
  have hP : va_P (dC, dI) vwCl [(op, .inr (10, oX10 ot on dn rd oc d o si w se nb hi p_status oe ih mb p_imageStatus x_p)), (o, .inr (4, oX4 o_met o_enough x_o)), (o_met, .inl (kJ, 23, .inr (.inl f_o_met)))] s.heap := hP
  have hl := lv_entry ([.ref op, .int (nI k), .int 4]) (n := 3) (Nat.le_of_ble_eq_true rfl)
  have hla : entryFrame m args0 3 = entryFrame m ([.ref op, .int (nI k), .int 4] : List Value).toArray 3 := by rw [hargs]
  rw [hla, lg_entry_eq]
  generalize (lg_sl ([.ref op, .int (nI k), .int 4]) ++ List.replicate (3 - (lg_sl ([.ref op, .int (nI k), .int 4])).length) Slot.unset).toArray = ls at hl ⊢
  have hl : lv_has ls 3 [(0, .ref op), (1, .int (nI k)), (2, .int 4)] := hl
  have hkv : iv 0 60 (nI k) := iv_nIv (by omega) (by omega) (by omega)
  refine lv_iload_n hx hb dX10_missing_0 rfl (lv_at hl 1 rfl) ?_
  refine lv_if_lt (tgt := 20) hx hb dX10_missing_1 (by decide) (fun c9 => absurd c9 (iv_nlt hkv (iv_k (by decide) (by decide) : iv 0 0 0) (by decide))) (fun _ => ?_)
  refine lv_iload_n hx hb dX10_missing_4 rfl (lv_at hl 1 rfl) ?_
  refine lv_bipush (v := 60) hx hb dX10_missing_5 (by decide) ?_
  refine lv_icmp_gt (tgt := 20) hx hb dX10_missing_7 (by decide) (fun c9 => absurd c9 (iv_nlt (iv_k (by decide) (by decide) : iv 60 60 60) hkv (by decide))) (fun _ => ?_)
  refine lv_iload_n hx hb dX10_missing_10 rfl (lv_at hl 2 rfl) ?_
  refine lv_iconst (v := 1) hx hb dX10_missing_11 (by decide) ?_
  refine lv_icmp_lt (tgt := 20) hx hb dX10_missing_12 (by decide) (fun c9 => absurd c9 (by decide)) (fun _ => ?_)
  refine lv_iload_n hx hb dX10_missing_15 rfl (lv_at hl 2 rfl) ?_
  refine lv_iconst (v := 5) hx hb dX10_missing_16 (by decide) ?_
  refine lv_icmp_le (tgt := 31) hx hb dX10_missing_17 (by decide) (fun _ => ?_) (fun c9 => absurd (by decide) c9)
  refine lv_aload_n hx hb dX10_missing_31 rfl (lv_at hl 0 rfl) ?_
  refine va_get (D := (dC, dI)) (ci := 10) (v := .ref o) (C := RX10) (T := TX10) (N := 19) hx hb hts hin10 hown hK hP 0 rfl rfl 6 (by decide) hw_0 (fun _ h9 => h9) rfl dX10_missing_32 ?_
  refine lv_iload_n hx hb dX10_missing_35 rfl (lv_at hl 1 rfl) ?_
  refine lv_iload_n hx hb dX10_missing_36 rfl (lv_at hl 2 rfl) ?_
  have hPc := hP.sub (ws' := [(o, .inr (4, oX4 o_met o_enough x_o)), (o_met, .inl (kJ, 23, .inr (.inl f_o_met)))]) [1, 2] rfl
  have hDc := hD.sub (ws' := [(o, .inr (4, oX4 o_met o_enough x_o)), (o_met, .inl (kJ, 23, .inr (.inl f_o_met)))]) [1, 2] (by decide) rfl
  have hFc := va_free (wc := [(o, .inr (4, oX4 o_met o_enough x_o)), (o_met, .inl (kJ, 23, .inr (.inl f_o_met)))]) hD hS hA [1, 2] rfl
  refine va_calll (va_runV (As := [.int (nI k), .int 4]) (rest := []) ⟨hx, hb, hml, hown, hts⟩ (e4_missed_4 l dC dI kB kI kJ kZ kC kS s.heap.size o o_met o_enough x_o k f_o_met (hk)) (cwV 2 hts gX10_missing_X4_missed rfl rfl rfl (by decide +kernel) ⟨Nat.le_of_ble_eq_true rfl, Nat.le_of_ble_eq_true rfl⟩) ⟨fun a U g mk q => by obtain ⟨q0, q1, qP, qE, qD⟩ := q; exact ⟨q0, q1, qP, kE_call qE, qD⟩, va_recv hK hP (ci := 4) (q0 := 1) rfl rfl, fun U hU hW => ⟨rfl, by rw [hU], by rw [hU]; exact hPc, kE_warm hW hE, hDc.weaken (fun _ _ _ _ => trivial)⟩⟩ rfl rfl hl.1 rfl (lv_room (Nat.le_of_ble_eq_true rfl)) dX10_missing_37 ⟨Nat.le_of_ble_eq_true rfl, Nat.le_of_ble_eq_true rfl⟩) hS (fun q _ h => hFc q h) hFc (fun r1 u t H1 locs ht hvm w2 hB hz1 hk1 hS => ?_)
  obtain ⟨f3, hP1, hD1⟩ := hB
  rw [ht] at hP1
  try dsimp only at w2
  obtain ⟨hP, hD⟩ := va_join (wr := [(op, .inr (10, oX10 ot on dn rd oc d o si w se nb hi p_status oe ih mb p_imageStatus x_p))]) (w1 := [(o, .inr (4, oX4 o_met o_enough x_o)), (o_met, .inl (kJ, 23, .inr (.inl f3)))]) hP hD [1, 2] [0] rfl rfl (by decide) (by decide) hk1 hFc hP1 hD1
  generalize H1 = H at hP hS ⊢
  have hP : va_P (dC, dI) vwCl [(op, .inr (10, oX10 ot on dn rd oc d o si w se nb hi p_status oe ih mb p_imageStatus x_p)), (o, .inr (4, oX4 o_met o_enough x_o)), (o_met, .inl (kJ, 23, .inr (.inl f3)))] H := hP
  have hD : va_D A [(op, .inr (10, oX10 ot on dn rd oc d o si w se nb hi p_status oe ih mb p_imageStatus x_p)), (o, .inr (4, oX4 o_met o_enough x_o)), (o_met, .inl (kJ, 23, .inr (.inl f3)))] := hD
  refine W.widen (k := 0) (n := 0) (Nat.le_of_ble_eq_true rfl) (Nat.le_of_ble_eq_true rfl) ?_
  subst w2
  have hP9 := hP.sub (ws' := [(op, .inr (10, oX10 ot on dn rd oc d o si w se nb hi p_status oe ih mb p_imageStatus x_p)), (o, .inr (4, oX4 o_met o_enough x_o)), (o_met, .inl (kJ, 23, .inr (.inl f3)))]) [0, 1, 2] rfl
  have hD9 := hD.sub (ws' := [(op, .inr (10, oX10 ot on dn rd oc d o si w se nb hi p_status oe ih mb p_imageStatus x_p)), (o, .inr (4, oX4 o_met o_enough x_o)), (o_met, .inl (kJ, 23, .inr (.inl f3)))]) [0, 1, 2] (by decide) rfl
  exact W.lret (v := 1000000000000 - kv4 k 4) hx hb hr (fun t ht hW => ⟨⟨1000000000000 - kv4 k 4, (), rfl, rfl, f3, by rw [ht]; exact hP9, hD9⟩, hS.F ht⟩) hS.2.2 dX10_missing_40
def rm_sL_missing_4 : Room := { frames := 3, cells := 0, slots := 0, locals := 69 }
set_option maxHeartbeats 4000000 in
set_option maxRecDepth 100000 in
theorem sL_missing_4 (l : Launch) (hst : l.stackTraces = false) (dC : Nat → ClassId) (dI : Nat → Nat → Nat) (kB kI kJ kZ kC kS : ClassId) (sz : Nat) (op : Nat) (ot : Nat) (on : Nat) (dn : Nat) (rd : Nat) (oc : Nat) (d : Nat) (o : Nat) (si : Nat) (w : Nat) (se : Nat) (nb : Nat) (hi : Nat) (p_status : Nat) (oe : Nat) (ih : Nat) (mb : Nat) (p_imageStatus : Nat) (x_p : Nat → Int32) (o_met : Nat) (o_enough : Nat) (x_o : Nat → Int32) (f_o_met : Nat → Int64) (k : Nat) (ou : Nat) (fo : Nat → Int64) (hk : k ≤ 60) : Met l yL_missing wsL_missing rm_sL_missing_4 (va_Pc [.ref op, .int (nI k), .int 4, .ref ou] (fun U => U.heap.size = sz ∧ va_P (dC, dI) vwCl [(op, .inr (10, oX10 ot on dn rd oc d o si w se nb hi p_status oe ih mb p_imageStatus x_p)), (o, .inr (4, oX4 o_met o_enough x_o)), (o_met, .inl (kJ, 23, .inr (.inl f_o_met))), (ou, .inl (kJ, 1, .inr (.inl fo)))] U.heap ∧ kE dC dI kB kI kJ kZ kC kS U ∧ va_D (fun _ => True) [(op, .inr (10, oX10 ot on dn rd oc d o si w se nb hi p_status oe ih mb p_imageStatus x_p)), (o, .inr (4, oX4 o_met o_enough x_o)), (o_met, .inl (kJ, 23, .inr (.inl f_o_met))), (ou, .inl (kJ, 1, .inr (.inl fo)))] ∧ kX U ∧ kT (va_A [(op, .inr (10, oX10 ot on dn rd oc d o si w se nb hi p_status oe ih mb p_imageStatus x_p)), (o, .inr (4, oX4 o_met o_enough x_o)), (o_met, .inl (kJ, 23, .inr (.inl f_o_met))), (ou, .inl (kJ, 1, .inr (.inl fo)))] sz) U)) (va_Qi (fun (r : Int32) (_ : Unit) => r = 0) (fun _ t => ∃ (f_o_met' : Nat → Int64) (fo' : Nat → Int64), (fo' 0 = 1000000000000 - kv4 k 4) ∧ va_P (dC, dI) vwCl [(op, .inr (10, oX10 ot on dn rd oc d o si w se nb hi p_status oe ih mb p_imageStatus x_p)), (o, .inr (4, oX4 o_met o_enough x_o)), (o_met, .inl (kJ, 23, .inr (.inl f_o_met'))), (ou, .inl (kJ, 1, .inr (.inl fo')))] t.heap ∧ va_D (va_A [(op, .inr (10, oX10 ot on dn rd oc d o si w se nb hi p_status oe ih mb p_imageStatus x_p)), (o, .inr (4, oX4 o_met o_enough x_o)), (o_met, .inl (kJ, 23, .inr (.inl f_o_met))), (ou, .inl (kJ, 1, .inr (.inl fo)))] sz) [(op, .inr (10, oX10 ot on dn rd oc d o si w se nb hi p_status oe ih mb p_imageStatus x_p)), (o, .inr (4, oX4 o_met o_enough x_o)), (o_met, .inl (kJ, 23, .inr (.inl f_o_met'))), (ou, .inl (kJ, 1, .inr (.inl fo')))]) (va_A [(op, .inr (10, oX10 ot on dn rd oc d o si w se nb hi p_status oe ih mb p_imageStatus x_p)), (o, .inr (4, oX4 o_met o_enough x_o)), (o_met, .inl (kJ, 23, .inr (.inl f_o_met))), (ou, .inl (kJ, 1, .inr (.inl fo)))] sz)) 0 0 (va_A [(op, .inr (10, oX10 ot on dn rd oc d o si w se nb hi p_status oe ih mb p_imageStatus x_p)), (o, .inr (4, oX4 o_met o_enough x_o)), (o_met, .inl (kJ, 23, .inr (.inl f_o_met))), (ou, .inl (kJ, 1, .inr (.inl fo)))] sz) := by
  refine va_MetW (cc := cL_missing) (maxL := 5) (ret := (some .int)) (by decide) rfl ?_
  intro p e s m args0 below meth c s₁ B hml hv
  obtain ⟨hargs, hsz, hP, hE, hD0, hXs, hT⟩ := hv
  have hx := B.exec
  have hb := B.bytes
  have hr := B.returns
  have hts := atoms_spec (ws := wsL_missing) B.pre
  have hown : s.vm.findClass RL = some m.cls := findClass_of_methodNamed B.named
  have hlocks := B.notSynchronized
  have hK := hE.1
  have hin10 : ∀ w ∈ wsX100, w ∈ wsL_missing := fun _ h9 => List.mem_cons_of_mem _ (List.mem_append_left _ (List.mem_append_left _ (List.mem_append_right _ h9)))
  have hin4 : ∀ w ∈ wsX40, w ∈ wsL_missing := fun _ h9 => List.mem_cons_of_mem _ (List.mem_append_left _ (List.mem_append_right _ h9))
  subst hsz
  have hD := hD0.self (sz := s.heap.size)
  generalize hAe : va_A [(op, .inr (10, oX10 ot on dn rd oc d o si w se nb hi p_status oe ih mb p_imageStatus x_p)), (o, .inr (4, oX4 o_met o_enough x_o)), (o_met, .inl (kJ, 23, .inr (.inl f_o_met))), (ou, .inl (kJ, 1, .inr (.inl fo)))] s.heap.size = A at hD hT ⊢
  have hA : ∀ q : Nat, s.heap.size ≤ q → A q := fun q h => by rw [← hAe]; exact Or.inr h
  have hS : va_S A s.heap s.heap [] := va_S.rf
  have hP : va_P (dC, dI) vwCl [(op, .inr (10, oX10 ot on dn rd oc d o si w se nb hi p_status oe ih mb p_imageStatus x_p)), (o, .inr (4, oX4 o_met o_enough x_o)), (o_met, .inl (kJ, 23, .inr (.inl f_o_met))), (ou, .inl (kJ, 1, .inr (.inl fo)))] s.heap := hP
  have hl := lv_entry ([.ref op, .int (nI k), .int 4, .ref ou]) (n := 5) (Nat.le_of_ble_eq_true rfl)
  have hla : entryFrame m args0 5 = entryFrame m ([.ref op, .int (nI k), .int 4, .ref ou] : List Value).toArray 5 := by rw [hargs]
  rw [hla, lg_entry_eq]
  generalize (lg_sl ([.ref op, .int (nI k), .int 4, .ref ou]) ++ List.replicate (5 - (lg_sl ([.ref op, .int (nI k), .int 4, .ref ou])).length) Slot.unset).toArray = ls at hl ⊢
  have hl : lv_has ls 5 [(0, .ref op), (1, .int (nI k)), (2, .int 4), (3, .ref ou)] := hl
  have hkv : iv 0 60 (nI k) := iv_nIv (by omega) (by omega) (by omega)
  refine lv_aload_n hx hb dL_missing_0 rfl (lv_at hl 3 rfl) ?_
  refine lv_iconst (v := 0) hx hb dL_missing_1 (by decide) ?_
  refine lv_aload_n hx hb dL_missing_2 rfl (lv_at hl 0 rfl) ?_
  refine lv_iload_n hx hb dL_missing_3 rfl (lv_at hl 1 rfl) ?_
  refine lv_iload_n hx hb dL_missing_4 rfl (lv_at hl 2 rfl) ?_
  have hPc := hP.sub (ws' := [(op, .inr (10, oX10 ot on dn rd oc d o si w se nb hi p_status oe ih mb p_imageStatus x_p)), (o, .inr (4, oX4 o_met o_enough x_o)), (o_met, .inl (kJ, 23, .inr (.inl f_o_met)))]) [0, 1, 2] rfl
  have hDc := hD.sub (ws' := [(op, .inr (10, oX10 ot on dn rd oc d o si w se nb hi p_status oe ih mb p_imageStatus x_p)), (o, .inr (4, oX4 o_met o_enough x_o)), (o_met, .inl (kJ, 23, .inr (.inl f_o_met)))]) [0, 1, 2] (by decide) rfl
  have hFc := va_free (wc := [(op, .inr (10, oX10 ot on dn rd oc d o si w se nb hi p_status oe ih mb p_imageStatus x_p)), (o, .inr (4, oX4 o_met o_enough x_o)), (o_met, .inl (kJ, 23, .inr (.inl f_o_met)))]) hD hS hA [0, 1, 2] rfl
  refine va_calll (va_runV (As := [.int (nI k), .int 4]) (rest := [.int 0, .ref ou]) ⟨hx, hb, hml, hown, hts⟩ (s10_missing_4 l dC dI kB kI kJ kZ kC kS s.heap.size op ot on dn rd oc d o si w se nb hi p_status oe ih mb p_imageStatus x_p o_met o_enough x_o f_o_met k (hk)) (cwV 2 hts gL_missing_X10_missing rfl rfl rfl (by decide +kernel) ⟨Nat.le_of_ble_eq_true rfl, Nat.le_of_ble_eq_true rfl⟩) ⟨fun a U g mk q => by obtain ⟨q0, q1, qP, qE, qD⟩ := q; exact ⟨q0, q1, qP, kE_call qE, qD⟩, va_recv hK hP (ci := 10) (q0 := 0) rfl rfl, fun U hU hW => ⟨rfl, by rw [hU], by rw [hU]; exact hPc, kE_warm hW hE, hDc.weaken (fun _ _ _ _ => trivial)⟩⟩ rfl rfl hl.1 rfl (lv_room (Nat.le_of_ble_eq_true rfl)) dL_missing_5 ⟨Nat.le_of_ble_eq_true rfl, Nat.le_of_ble_eq_true rfl⟩) hS (fun q _ h => hFc q h) hFc (fun r1 u t H1 locs ht hvm w2 hB hz1 hk1 hS => ?_)
  obtain ⟨f3, hP1, hD1⟩ := hB
  rw [ht] at hP1
  try dsimp only at w2
  obtain ⟨hP, hD⟩ := va_join (wr := [(ou, .inl (kJ, 1, .inr (.inl fo)))]) (w1 := [(op, .inr (10, oX10 ot on dn rd oc d o si w se nb hi p_status oe ih mb p_imageStatus x_p)), (o, .inr (4, oX4 o_met o_enough x_o)), (o_met, .inl (kJ, 23, .inr (.inl f3)))]) hP hD [0, 1, 2] [3] rfl rfl (by decide) (by decide) hk1 hFc hP1 hD1
  generalize H1 = H at hP hS ⊢
  have hP : va_P (dC, dI) vwCl [(ou, .inl (kJ, 1, .inr (.inl fo))), (op, .inr (10, oX10 ot on dn rd oc d o si w se nb hi p_status oe ih mb p_imageStatus x_p)), (o, .inr (4, oX4 o_met o_enough x_o)), (o_met, .inl (kJ, 23, .inr (.inl f3)))] H := hP
  have hD : va_D A [(ou, .inl (kJ, 1, .inr (.inl fo))), (op, .inr (10, oX10 ot on dn rd oc d o si w se nb hi p_status oe ih mb p_imageStatus x_p)), (o, .inr (4, oX4 o_met o_enough x_o)), (o_met, .inl (kJ, 23, .inr (.inl f3)))] := hD
  refine W.widen (k := 0) (n := 0) (Nat.le_of_ble_eq_true rfl) (Nat.le_of_ble_eq_true rfl) ?_
  subst w2
  refine va_last hx hb hK hP hD hS 0 2 rfl rfl (vp_in_nI (n := 0) (by decide) (by decide)) dL_missing_8 (fun H locs hP hD hS => ?_)
  have hP : va_P (dC, dI) vwCl [(ou, .inl (kJ, 1, .inr (.inl (vp_updL fo 0 (1000000000000 - kv4 k 4))))), (op, .inr (10, oX10 ot on dn rd oc d o si w se nb hi p_status oe ih mb p_imageStatus x_p)), (o, .inr (4, oX4 o_met o_enough x_o)), (o_met, .inl (kJ, 23, .inr (.inl f3)))] H := hP
  have hD : va_D A [(ou, .inl (kJ, 1, .inr (.inl (vp_updL fo 0 (1000000000000 - kv4 k 4))))), (op, .inr (10, oX10 ot on dn rd oc d o si w se nb hi p_status oe ih mb p_imageStatus x_p)), (o, .inr (4, oX4 o_met o_enough x_o)), (o_met, .inl (kJ, 23, .inr (.inl f3)))] := hD
  refine lv_goto (tgt := 16) hx hb dL_missing_9 (by decide) ?_
  refine lv_iconst (v := 0) hx hb dL_missing_16 (by decide) ?_
  have hP9 := hP.sub (ws' := [(op, .inr (10, oX10 ot on dn rd oc d o si w se nb hi p_status oe ih mb p_imageStatus x_p)), (o, .inr (4, oX4 o_met o_enough x_o)), (o_met, .inl (kJ, 23, .inr (.inl f3))), (ou, .inl (kJ, 1, .inr (.inl (vp_updL fo 0 (1000000000000 - kv4 k 4)))))]) [1, 2, 3, 0] rfl
  have hD9 := hD.sub (ws' := [(op, .inr (10, oX10 ot on dn rd oc d o si w se nb hi p_status oe ih mb p_imageStatus x_p)), (o, .inr (4, oX4 o_met o_enough x_o)), (o_met, .inl (kJ, 23, .inr (.inl f3))), (ou, .inl (kJ, 1, .inr (.inl (vp_updL fo 0 (1000000000000 - kv4 k 4)))))]) [1, 2, 3, 0] (by decide) rfl
  exact W.iret (v := 0) hx hb hr (fun t ht hW => ⟨⟨0, (), rfl, rfl, f3, vp_updL fo 0 (1000000000000 - kv4 k 4), (show (vp_updL fo 0 (1000000000000 - kv4 k 4)) 0 = 1000000000000 - kv4 k 4 from rfl), by rw [ht]; exact hP9, hD9⟩, hS.F ht⟩) hS.2.2 dL_missing_17
def rm_s11_missing_4 : Room := { frames := 1, cells := 0, slots := 0, locals := 26 }
set_option maxHeartbeats 4000000 in
set_option maxRecDepth 100000 in
theorem s11_missing_4 (l : Launch) (dC : Nat → ClassId) (dI : Nat → Nat → Nat) (kB kI kJ kZ kC kS : ClassId) (sz : Nat) (m0 : Nat) (ra : Nat → Nat) (x0 : Nat → Int32) (q_met : Nat → Int64) (k : Nat) (hX : fI lX11 hX11 x0) (hk : k ≤ 60) : Met l yX11_missing wsX11_missing rm_s11_missing_4 (va_Pc [.ref m0, .int (nI k), .int 4] (fun U => U.heap.size = sz ∧ va_P (dC, dI) vwCl [(m0, .inr (11, oX11 ra x0)), (ra 15, .inl (kJ, 24, .inr (.inl q_met)))] U.heap ∧ kE dC dI kB kI kJ kZ kC kS U ∧ va_D (fun _ => True) [(m0, .inr (11, oX11 ra x0)), (ra 15, .inl (kJ, 24, .inr (.inl q_met)))])) (va_Ql (fun (r : Int64) (_ : Unit) => r = 1000000000000 - kv4 k 4) (fun _ t => ∃ (x0' : Nat → Int32) (q_met' : Nat → Int64), fI lX11 hX11 x0' ∧ (x0' 0 = 0) ∧ va_P (dC, dI) vwCl [(m0, .inr (11, oX11 ra x0')), (ra 15, .inl (kJ, 24, .inr (.inl q_met')))] t.heap ∧ va_D (va_A [(m0, .inr (11, oX11 ra x0)), (ra 15, .inl (kJ, 24, .inr (.inl q_met)))] sz) [(m0, .inr (11, oX11 ra x0')), (ra 15, .inl (kJ, 24, .inr (.inl q_met')))]) (va_A [(m0, .inr (11, oX11 ra x0)), (ra 15, .inl (kJ, 24, .inr (.inl q_met)))] sz)) 0 0 (va_A [(m0, .inr (11, oX11 ra x0)), (ra 15, .inl (kJ, 24, .inr (.inl q_met)))] sz) := by
  refine Met.ofW (cc := cX11_missing) (maxL := 3) (ret := (some .long)) (by decide) rfl ?_
  intro p e s m args0 below meth c s₁ B hml hv
  obtain ⟨hargs, hsz, hP, hE, hD0⟩ := hv
  have hx := B.exec
  have hb := B.bytes
  have hr := B.returns
  have hts := atoms_spec (ws := wsX11_missing) B.pre
  have hown : s.vm.findClass RX11 = some m.cls := findClass_of_methodNamed B.named
  have hlocks := B.notSynchronized
  have hK := hE.1
  have hin11 : ∀ w ∈ wsX110, w ∈ wsX11_missing := fun _ h9 => List.mem_cons_of_mem _ (List.mem_append_right _ h9)
  have hw_0 := hts (.fieldLink RX11 142 "PathProberModel" "code" "I") (List.mem_of_getElem? (i := 1) (by decide +kernel))
  subst hsz
  have hD := hD0.self (sz := s.heap.size)
  generalize hAe : va_A [(m0, .inr (11, oX11 ra x0)), (ra 15, .inl (kJ, 24, .inr (.inl q_met)))] s.heap.size = A at hD ⊢
  have hA : ∀ q : Nat, s.heap.size ≤ q → A q := fun q h => by rw [← hAe]; exact Or.inr h
  have hS : va_S A s.heap s.heap [] := va_S.rf
  have hP : va_P (dC, dI) vwCl [(m0, .inr (11, oX11 ra x0)), (ra 15, .inl (kJ, 24, .inr (.inl q_met)))] s.heap := hP
  have hl := lv_entry ([.ref m0, .int (nI k), .int 4]) (n := 3) (Nat.le_of_ble_eq_true rfl)
  have hla : entryFrame m args0 3 = entryFrame m ([.ref m0, .int (nI k), .int 4] : List Value).toArray 3 := by rw [hargs]
  rw [hla, lg_entry_eq]
  generalize (lg_sl ([.ref m0, .int (nI k), .int 4]) ++ List.replicate (3 - (lg_sl ([.ref m0, .int (nI k), .int 4])).length) Slot.unset).toArray = ls at hl ⊢
  have hl : lv_has ls 3 [(0, .ref m0), (1, .int (nI k)), (2, .int 4)] := hl
  have hkv : iv 0 60 (nI k) := iv_nIv (by omega) (by omega) (by omega)
  refine lv_aload_n hx hb dX11_missing_0 rfl (lv_at hl 0 rfl) ?_
  refine lv_iconst (v := 0) hx hb dX11_missing_1 (by decide) ?_
  refine va_put (D := (dC, dI)) (ci := 11) (v := .int 0) (ty := .int) (C := RX11) (T := TX11) (N := 61) hx hb hts hin11 tyX11 tyX11_ok nmX11 hown hK hP hD hS 0 rfl rfl 2 (by decide) hw_0 (fun _ h9 => h9) rfl (by decide +kernel) rfl rfl (Nat.le_of_ble_eq_true rfl) dX11_missing_2 (fun H locs hP hD hS => ?_)
  have hP : va_P (dC, dI) vwCl [(m0, .inr (11, oX11 ra (upd x0 0 0))), (ra 15, .inl (kJ, 24, .inr (.inl q_met)))] H := hP
  have hD : va_D A [(m0, .inr (11, oX11 ra (upd x0 0 0))), (ra 15, .inl (kJ, 24, .inr (.inl q_met)))] := hD
  refine lv_iload_n hx hb dX11_missing_5 rfl (lv_at hl 1 rfl) ?_
  refine lv_iconst (v := 0) hx hb dX11_missing_6 (by decide) ?_
  refine lv_bipush (v := 60) hx hb dX11_missing_7 (by decide) ?_
  have hPc := hP.sub (ws' := []) [] rfl
  have hDc := hD.sub (ws' := []) [] (by decide) rfl
  have hFc := va_free (wc := []) hD hS hA [] rfl
  refine va_calli (va_runS (As := [.int (nI k), .int 0, .int 60]) (rest := []) ⟨hx, hb, hml, hown, hts⟩ (s11_isIn_60 l dC dI kB kI kJ kZ kC kS H.size (nI k) (hkv)) (va_cwS 3 hts gX11_missing_X11_isIn rfl rfl rfl (by decide +kernel) ⟨Nat.le_of_ble_eq_true rfl, Nat.le_of_ble_eq_true rfl⟩) ⟨fun a U g mk q => by obtain ⟨q0, q1, qP, qE, qD⟩ := q; exact ⟨q0, q1, qP, kE_call qE, qD⟩, fun U hU hW => ⟨rfl, by rw [hU], by rw [hU]; exact hPc, kE_warm hW hE, hDc.weaken (fun _ _ _ _ => trivial)⟩⟩ rfl rfl hl.1 rfl (lv_room (Nat.le_of_ble_eq_true rfl)) dX11_missing_9 ⟨Nat.le_of_ble_eq_true rfl, Nat.le_of_ble_eq_true rfl⟩) hS (fun q _ h => hFc q h) hFc (fun r1 u t H1 locs ht hvm w2 hB hz1 hk1 hS => ?_)
  obtain ⟨hP1, hD1⟩ := hB
  rw [ht] at hP1
  try dsimp only at w2
  obtain ⟨hP, hD⟩ := va_join (wr := [(m0, .inr (11, oX11 ra (upd x0 0 0))), (ra 15, .inl (kJ, 24, .inr (.inl q_met)))]) (w1 := []) hP hD [] [0, 1] rfl rfl (by decide) (by decide) hk1 hFc hP1 hD1
  generalize H1 = H at hP hS ⊢
  have hP : va_P (dC, dI) vwCl [(m0, .inr (11, oX11 ra (upd x0 0 0))), (ra 15, .inl (kJ, 24, .inr (.inl q_met)))] H := hP
  have hD : va_D A [(m0, .inr (11, oX11 ra (upd x0 0 0))), (ra 15, .inl (kJ, 24, .inr (.inl q_met)))] := hD
  refine W.widen (k := 0) (n := 0) (Nat.le_of_ble_eq_true rfl) (Nat.le_of_ble_eq_true rfl) ?_
  obtain rfl : r1 = 1 := iv_one w2 (by decide)
  refine lv_if_eq (tgt := 33) hx hb dX11_missing_12 (by decide) (fun c9 => absurd c9 (by decide)) (fun _ => ?_)
  refine lv_iload_n hx hb dX11_missing_15 rfl (lv_at hl 2 rfl) ?_
  refine lv_iconst (v := 1) hx hb dX11_missing_16 (by decide) ?_
  refine lv_iconst (v := 5) hx hb dX11_missing_17 (by decide) ?_
  have hPc := hP.sub (ws' := []) [] rfl
  have hDc := hD.sub (ws' := []) [] (by decide) rfl
  have hFc := va_free (wc := []) hD hS hA [] rfl
  refine va_calli (va_runS (As := [.int 4, .int 1, .int 5]) (rest := []) ⟨hx, hb, hml, hown, hts⟩ (s11_isIn_m4 l dC dI kB kI kJ kZ kC kS H.size ) (va_cwS 3 hts gX11_missing_X11_isIn rfl rfl rfl (by decide +kernel) ⟨Nat.le_of_ble_eq_true rfl, Nat.le_of_ble_eq_true rfl⟩) ⟨fun a U g mk q => by obtain ⟨q0, q1, qP, qE, qD⟩ := q; exact ⟨q0, q1, qP, kE_call qE, qD⟩, fun U hU hW => ⟨rfl, by rw [hU], by rw [hU]; exact hPc, kE_warm hW hE, hDc.weaken (fun _ _ _ _ => trivial)⟩⟩ rfl rfl hl.1 rfl (lv_room (Nat.le_of_ble_eq_true rfl)) dX11_missing_18 ⟨Nat.le_of_ble_eq_true rfl, Nat.le_of_ble_eq_true rfl⟩) hS (fun q _ h => hFc q h) hFc (fun r3 u t H1 locs ht hvm w4 hB hz1 hk1 hS => ?_)
  obtain ⟨hP1, hD1⟩ := hB
  rw [ht] at hP1
  try dsimp only at w4
  obtain ⟨hP, hD⟩ := va_join (wr := [(m0, .inr (11, oX11 ra (upd x0 0 0))), (ra 15, .inl (kJ, 24, .inr (.inl q_met)))]) (w1 := []) hP hD [] [0, 1] rfl rfl (by decide) (by decide) hk1 hFc hP1 hD1
  generalize H1 = H at hP hS ⊢
  have hP : va_P (dC, dI) vwCl [(m0, .inr (11, oX11 ra (upd x0 0 0))), (ra 15, .inl (kJ, 24, .inr (.inl q_met)))] H := hP
  have hD : va_D A [(m0, .inr (11, oX11 ra (upd x0 0 0))), (ra 15, .inl (kJ, 24, .inr (.inl q_met)))] := hD
  refine W.widen (k := 0) (n := 0) (Nat.le_of_ble_eq_true rfl) (Nat.le_of_ble_eq_true rfl) ?_
  obtain rfl : r3 = 1 := iv_one w4 (by decide)
  refine lv_if_eq (tgt := 33) hx hb dX11_missing_21 (by decide) (fun c9 => absurd c9 (by decide)) (fun _ => ?_)
  refine lv_aload_n hx hb dX11_missing_24 rfl (lv_at hl 0 rfl) ?_
  refine lv_iload_n hx hb dX11_missing_25 rfl (lv_at hl 1 rfl) ?_
  refine lv_iload_n hx hb dX11_missing_26 rfl (lv_at hl 2 rfl) ?_
  have hPc := hP.sub (ws' := [(m0, .inr (11, oX11 ra (upd x0 0 0))), (ra 15, .inl (kJ, 24, .inr (.inl q_met)))]) [0, 1] rfl
  have hDc := hD.sub (ws' := [(m0, .inr (11, oX11 ra (upd x0 0 0))), (ra 15, .inl (kJ, 24, .inr (.inl q_met)))]) [0, 1] (by decide) rfl
  have hFc := va_free (wc := [(m0, .inr (11, oX11 ra (upd x0 0 0))), (ra 15, .inl (kJ, 24, .inr (.inl q_met)))]) hD hS hA [0, 1] rfl
  refine va_calll (va_runV (As := [.int (nI k), .int 4]) (rest := []) ⟨hx, hb, hml, hown, hts⟩ (e11_missingOf_4 l dC dI kB kI kJ kZ kC kS H.size m0 ra (upd x0 0 0) k q_met (hk)) (cwV 2 hts gX11_missing_X11_missingOf rfl rfl rfl (by decide +kernel) ⟨Nat.le_of_ble_eq_true rfl, Nat.le_of_ble_eq_true rfl⟩) ⟨fun a U g mk q => by obtain ⟨q0, q1, qP, qE, qD⟩ := q; exact ⟨q0, q1, qP, kE_call qE, qD⟩, va_recv hK hP (ci := 11) (q0 := 0) rfl rfl, fun U hU hW => ⟨rfl, by rw [hU], by rw [hU]; exact hPc, kE_warm hW hE, hDc.weaken (fun _ _ _ _ => trivial)⟩⟩ rfl rfl hl.1 rfl (lv_room (Nat.le_of_ble_eq_true rfl)) dX11_missing_27 ⟨Nat.le_of_ble_eq_true rfl, Nat.le_of_ble_eq_true rfl⟩) hS (fun q _ h => hFc q h) hFc (fun r5 u t H1 locs ht hvm w6 hB hz1 hk1 hS => ?_)
  obtain ⟨f7, hP1, hD1⟩ := hB
  rw [ht] at hP1
  try dsimp only at w6
  obtain ⟨hP, hD⟩ := va_join (wr := []) (w1 := [(m0, .inr (11, oX11 ra (upd x0 0 0))), (ra 15, .inl (kJ, 24, .inr (.inl f7)))]) hP hD [0, 1] [] rfl rfl (by decide) (by decide) hk1 hFc hP1 hD1
  generalize H1 = H at hP hS ⊢
  have hP : va_P (dC, dI) vwCl [(m0, .inr (11, oX11 ra (upd x0 0 0))), (ra 15, .inl (kJ, 24, .inr (.inl f7)))] H := hP
  have hD : va_D A [(m0, .inr (11, oX11 ra (upd x0 0 0))), (ra 15, .inl (kJ, 24, .inr (.inl f7)))] := hD
  refine W.widen (k := 0) (n := 0) (Nat.le_of_ble_eq_true rfl) (Nat.le_of_ble_eq_true rfl) ?_
  subst w6
  refine lv_goto (tgt := 39) hx hb dX11_missing_30 (by decide) ?_
  have hP9 := hP.sub (ws' := [(m0, .inr (11, oX11 ra (upd x0 0 0))), (ra 15, .inl (kJ, 24, .inr (.inl f7)))]) [0, 1] rfl
  have hD9 := hD.sub (ws' := [(m0, .inr (11, oX11 ra (upd x0 0 0))), (ra 15, .inl (kJ, 24, .inr (.inl f7)))]) [0, 1] (by decide) rfl
  exact W.lret (v := 1000000000000 - kv4 k 4) hx hb hr (fun t ht hW => ⟨⟨1000000000000 - kv4 k 4, (), rfl, rfl, upd x0 0 0, f7, (fI_u hX (k := 0) ((iv_w (iv_k (by decide) (by decide) : iv 0 0 0) (by decide) (by decide)))), (show 0 = 0 from rfl), by rw [ht]; exact hP9, hD9⟩, hS.F ht⟩) hS.2.2 dX11_missing_39
