def rm_s11_fail : Room := { frames := 0, cells := 0, slots := 0, locals := 0 }
set_option maxHeartbeats 4000000 in
set_option maxRecDepth 100000 in
theorem s11_fail (l : Launch) (dC : Nat → ClassId) (dI : Nat → Nat → Nat) (kB kI kJ kZ kC kS : ClassId) (sz : Nat) (m0 : Nat) (ra : Nat → Nat) (x0 : Nat → Int32) (p0 : Int32) (hX : fI lX11 hX11 x0) : Met l yX11_fail wsX11_fail rm_s11_fail (va_Pc [.ref m0, .int p0] (fun U => U.heap.size = sz ∧ va_P (dC, dI) vwCl [(m0, .inr (11, oX11 ra x0))] U.heap ∧ kE dC dI kB kI kJ kZ kC kS U ∧ va_D (fun _ => True) [(m0, .inr (11, oX11 ra x0))])) (va_Qi (fun (r : Int32) (_ : Unit) => iv 0 0 r) (fun _ t => ∃ (x0' : Nat → Int32), fI lX11 hX11 x0' ∧ (x0' 0 = p0) ∧ (x0' 1 = x0 1) ∧ (x0' 10 = x0 10) ∧ (x0' 11 = x0 11) ∧ (x0' 14 = x0 14) ∧ va_P (dC, dI) vwCl [(m0, .inr (11, oX11 ra x0'))] t.heap ∧ va_D (va_A [(m0, .inr (11, oX11 ra x0))] sz) [(m0, .inr (11, oX11 ra x0'))]) (va_A [(m0, .inr (11, oX11 ra x0))] sz)) 0 0 (va_A [(m0, .inr (11, oX11 ra x0))] sz) := by
  refine Met.ofW (cc := cX11_fail) (maxL := 2) (ret := (some .int)) (by decide) rfl ?_
  intro p e s m args0 below meth c s₁ B hml hv
  obtain ⟨hargs, hsz, hP, hE, hD0⟩ := hv
  have hx := B.exec
  have hb := B.bytes
  have hr := B.returns
  have hts := atoms_spec (ws := wsX11_fail) B.pre
  have hown : s.vm.findClass RX11 = some m.cls := findClass_of_methodNamed B.named
  have hlocks := B.notSynchronized
  have hK := hE.1
  have hin11 : ∀ w ∈ wsX110, w ∈ wsX11_fail := fun _ h9 => List.mem_cons_of_mem _ (List.mem_append_right _ h9)
  have hw_0 := hts (.fieldLink RX11 142 "PathProberModel" "code" "I") (List.mem_of_getElem? (i := 1) rfl)
  subst hsz
  have hD := hD0.self (sz := s.heap.size)
  generalize hAe : va_A [(m0, .inr (11, oX11 ra x0))] s.heap.size = A at hD ⊢
  have hA : ∀ q : Nat, s.heap.size ≤ q → A q := fun q h => by rw [← hAe]; exact Or.inr h
  have hS : va_S A s.heap s.heap [] := va_S.rf
  have hP : va_P (dC, dI) vwCl [(m0, .inr (11, oX11 ra x0))] s.heap := hP
  have hl := lv_entry ([.ref m0, .int p0]) (n := 2) (Nat.le_of_ble_eq_true rfl)
  have hla : entryFrame m args0 2 = entryFrame m ([.ref m0, .int p0] : List Value).toArray 2 := by rw [hargs]
  rw [hla, lg_entry_eq]
  generalize (lg_sl ([.ref m0, .int p0]) ++ List.replicate (2 - (lg_sl ([.ref m0, .int p0])).length) Slot.unset).toArray = ls at hl ⊢
  have hl : lv_has ls 2 [(0, .ref m0), (1, .int p0)] := hl
  refine lv_aload_n hx hb dX11_fail_0 rfl (lv_at hl 0 rfl) ?_
  refine lv_iload_n hx hb dX11_fail_1 rfl (lv_at hl 1 rfl) ?_
  refine va_put (D := (dC, dI)) (ci := 11) (v := .int p0) (ty := .int) (C := RX11) (T := TX11) (N := 61) hx hb hts hin11 tyX11 tyX11_ok nmX11 hown hK hP hD hS 0 rfl rfl 2 (by decide) hw_0 (fun _ h9 => h9) rfl (by decide +kernel) rfl rfl (Nat.le_of_ble_eq_true rfl) dX11_fail_2 (fun H locs hPa hDa hS => ?_)
  clear hP hD
  have hP : va_P (dC, dI) vwCl [(m0, .inr (11, oX11 ra (upd x0 0 p0)))] H := hPa
  have hD : va_D A [(m0, .inr (11, oX11 ra (upd x0 0 p0)))] := hDa
  clear hPa hDa
  refine lv_iconst (v := 0) hx hb dX11_fail_5 ic_0 ?_
  have hP9 := hP
  have hD9 := hD
  exact W.iret (v := 0) hx hb hr (fun t ht hW => ⟨⟨0, (), rfl, ivk_0, upd x0 0 p0, (fI_u hX (k := 0) ((iv_t p0))), (show p0 = p0 from rfl), (show x0 1 = x0 1 from rfl), (show x0 10 = x0 10 from rfl), (show x0 11 = x0 11 from rfl), (show x0 14 = x0 14 from rfl), by rw [ht]; exact hP9, hD9⟩, hS.F ht⟩) hS.2.2 dX11_fail_6
def rm_s11_thrown : Room := { frames := 0, cells := 0, slots := 0, locals := 0 }
set_option maxHeartbeats 4000000 in
set_option maxRecDepth 100000 in
theorem s11_thrown (l : Launch) (dC : Nat → ClassId) (dI : Nat → Nat → Nat) (kB kI kJ kZ kC kS : ClassId) (sz : Nat) (m0 : Nat) (ra : Nat → Nat) (x0 : Nat → Int32) (hX : fI lX11 hX11 x0) : Met l yX11_thrown wsX11_thrown rm_s11_thrown (va_Pc [.ref m0] (fun U => U.heap.size = sz ∧ va_P (dC, dI) vwCl [(m0, .inr (11, oX11 ra x0))] U.heap ∧ kE dC dI kB kI kJ kZ kC kS U ∧ va_D (fun _ => True) [(m0, .inr (11, oX11 ra x0))])) (va_Qi (fun (r : Int32) (_ : Unit) => r = x0 0) (fun _ t => va_P (dC, dI) vwCl [(m0, .inr (11, oX11 ra x0))] t.heap ∧ va_D (va_A [(m0, .inr (11, oX11 ra x0))] sz) [(m0, .inr (11, oX11 ra x0))]) (va_A [(m0, .inr (11, oX11 ra x0))] sz)) 0 0 (va_A [(m0, .inr (11, oX11 ra x0))] sz) := by
  refine Met.ofW (cc := cX11_thrown) (maxL := 1) (ret := (some .int)) (by decide) rfl ?_
  intro p e s m args0 below meth c s₁ B hml hv
  obtain ⟨hargs, hsz, hP, hE, hD0⟩ := hv
  have hx := B.exec
  have hb := B.bytes
  have hr := B.returns
  have hts := atoms_spec (ws := wsX11_thrown) B.pre
  have hown : s.vm.findClass RX11 = some m.cls := findClass_of_methodNamed B.named
  have hlocks := B.notSynchronized
  have hK := hE.1
  have hin11 : ∀ w ∈ wsX110, w ∈ wsX11_thrown := fun _ h9 => List.mem_cons_of_mem _ (List.mem_append_right _ h9)
  have hw_0 := hts (.fieldLink RX11 142 "PathProberModel" "code" "I") (List.mem_of_getElem? (i := 1) rfl)
  subst hsz
  have hD := hD0.self (sz := s.heap.size)
  generalize hAe : va_A [(m0, .inr (11, oX11 ra x0))] s.heap.size = A at hD ⊢
  have hA : ∀ q : Nat, s.heap.size ≤ q → A q := fun q h => by rw [← hAe]; exact Or.inr h
  have hS : va_S A s.heap s.heap [] := va_S.rf
  have hP : va_P (dC, dI) vwCl [(m0, .inr (11, oX11 ra x0))] s.heap := hP
  have hl := lv_entry ([.ref m0]) (n := 1) (Nat.le_of_ble_eq_true rfl)
  have hla : entryFrame m args0 1 = entryFrame m ([.ref m0] : List Value).toArray 1 := by rw [hargs]
  rw [hla, lg_entry_eq]
  generalize (lg_sl ([.ref m0]) ++ List.replicate (1 - (lg_sl ([.ref m0])).length) Slot.unset).toArray = ls at hl ⊢
  have hl : lv_has ls 1 [(0, .ref m0)] := hl
  refine lv_aload_n hx hb dX11_thrown_0 rfl (lv_at hl 0 rfl) ?_
  refine va_get (D := (dC, dI)) (ci := 11) (v := .int (x0 0)) (C := RX11) (T := TX11) (N := 61) hx hb hts hin11 hown hK hP 0 rfl rfl 2 (Nat.le_of_ble_eq_true rfl) hw_0 (fun _ h9 => h9) rfl dX11_thrown_1 ?_
  have hP9 := hP
  have hD9 := hD
  exact W.iret (v := x0 0) hx hb hr (fun t ht hW => ⟨⟨x0 0, (), rfl, rfl, by rw [ht]; exact hP9, hD9⟩, hS.F ht⟩) hS.2.2 dX11_thrown_4
def rm_s11_isIn : Room := { frames := 0, cells := 0, slots := 0, locals := 0 }
set_option maxHeartbeats 4000000 in
set_option maxRecDepth 100000 in
theorem s11_isIn (l : Launch) (dC : Nat → ClassId) (dI : Nat → Nat → Nat) (kB kI kJ kZ kC kS : ClassId) (sz : Nat) (p0 : Int32) (p1 : Int32) (p2 : Int32) : Met l yX11_isIn wsX11_isIn rm_s11_isIn (va_Pc [.int p0, .int p1, .int p2] (fun U => U.heap.size = sz ∧ va_P (dC, dI) vwCl [] U.heap ∧ kE dC dI kB kI kJ kZ kC kS U ∧ va_D (fun _ => True) [])) (va_Qi (fun (r : Int32) (_ : Unit) => iv 0 1 r ∧ (r = 0 ∨ (p1.toInt ≤ p0.toInt ∧ p0.toInt ≤ p2.toInt))) (fun _ t => va_P (dC, dI) vwCl [] t.heap ∧ va_D (va_A [] sz) []) (va_A [] sz)) 0 0 (va_A [] sz) := by
  refine Met.ofW (cc := cX11_isIn) (maxL := 3) (ret := (some .boolean)) (by decide) rfl ?_
  intro p e s m args0 below meth c s₁ B hml hv
  obtain ⟨hargs, hsz, hP, hE, hD0⟩ := hv
  have hx := B.exec
  have hb := B.bytes
  have hr := B.returns
  have hts := atoms_spec (ws := wsX11_isIn) B.pre
  have hown : s.vm.findClass RX11 = some m.cls := findClass_of_methodNamed B.named
  have hlocks := B.notSynchronized
  have hK := hE.1
  subst hsz
  have hD := hD0.self (sz := s.heap.size)
  generalize hAe : va_A [] s.heap.size = A at hD ⊢
  have hA : ∀ q : Nat, s.heap.size ≤ q → A q := fun q h => by rw [← hAe]; exact Or.inr h
  have hS : va_S A s.heap s.heap [] := va_S.rf
  have hP : va_P (dC, dI) vwCl [] s.heap := hP
  have hl := lv_entry ([.int p0, .int p1, .int p2]) (n := 3) (Nat.le_of_ble_eq_true rfl)
  have hla : entryFrame m args0 3 = entryFrame m ([.int p0, .int p1, .int p2] : List Value).toArray 3 := by rw [hargs]
  rw [hla, lg_entry_eq]
  generalize (lg_sl ([.int p0, .int p1, .int p2]) ++ List.replicate (3 - (lg_sl ([.int p0, .int p1, .int p2])).length) Slot.unset).toArray = ls at hl ⊢
  have hl : lv_has ls 3 [(0, .int p0), (1, .int p1), (2, .int p2)] := hl
  have hJ14 : ∀ (H : Heap) (locs : List Loc) (ls : Array Slot), iv (-2147483648) 2147483647 p0 → va_P (dC, dI) vwCl [] H → va_D A [] → va_S A s.heap H locs → lv_has ls 3 [(0, .int p0), (1, .int p1), (2, .int p2)] → W p l e (headSpec wsX11_isIn rm_s11_isIn).room s m args0 below meth c H locs (0) (0) (MQ below (va_Qi (fun (r : Int32) (_ : Unit) => iv 0 1 r ∧ (r = 0 ∨ (p1.toInt ≤ p0.toInt ∧ p0.toInt ≤ p2.toInt))) (fun _ t => va_P (dC, dI) vwCl [] t.heap ∧ va_D A []) A) args0 s 0 0 A) (F0 m 14 ls []) := by
    intro H locs ls h14_1 hP hD hS hl
    refine lv_iconst (v := 0) hx hb dX11_isIn_14 ic_0 ?_
    have hP9 := hP
    have hD9 := hD
    exact W.zret (v := 0) (ty := .boolean) hx hb hr rfl (fun t ht hW => ⟨⟨0, (), rfl, ⟨(iv_w ivk_0 (by decide) (by decide)), Or.inl rfl⟩, by rw [ht]; exact hP9, hD9⟩, hS.F ht⟩) hS.2.2 dX11_isIn_15
  refine lv_iload_n hx hb dX11_isIn_0 rfl (lv_at hl 0 rfl) ?_
  refine lv_iload_n hx hb dX11_isIn_1 rfl (lv_at hl 1 rfl) ?_
  refine lv_icmp_lt (tgt := 14) hx hb dX11_isIn_2 rfl (fun c1 => ?_) (fun c1 => ?_)
  · have b2 : iv (-2147483648) 2147483646 p0 := iv_ltL c1 (iv_t p0) (iv_t p1) (by decide) (by decide)
    have b3 : iv (-2147483647) 2147483647 p1 := iv_ltR c1 (iv_t p0) (iv_t p1) (by decide) (by decide)
    exact hJ14 _ _ _ ((iv_w b2 (by decide) (by decide))) (hP) (hD) hS (lv_sub hl [0, 1, 2] rfl)
  · refine lv_iload_n hx hb dX11_isIn_5 rfl (lv_at hl 0 rfl) ?_
    refine lv_iload_n hx hb dX11_isIn_6 rfl (lv_at hl 2 rfl) ?_
    refine lv_icmp_gt (tgt := 14) hx hb dX11_isIn_7 rfl (fun c4 => ?_) (fun c4 => ?_)
    · have b5 : iv (-2147483648) 2147483646 p2 := iv_ltL c4 (iv_t p2) (iv_t p0) (by decide) (by decide)
      have b6 : iv (-2147483647) 2147483647 p0 := iv_ltR c4 (iv_t p2) (iv_t p0) (by decide) (by decide)
      exact hJ14 _ _ _ ((iv_w b6 (by decide) (by decide))) (hP) (hD) hS (lv_sub hl [0, 1, 2] rfl)
    · refine lv_iconst (v := 1) hx hb dX11_isIn_10 ic_1 ?_
      refine lv_goto (tgt := 15) hx hb dX11_isIn_11 rfl ?_
      have hP9 := hP
      have hD9 := hD
      exact W.zret (v := 1) (ty := .boolean) hx hb hr rfl (fun t ht hW => ⟨⟨1, (), rfl, ⟨(iv_w ivk_1 (by decide) (by decide)), Or.inr ⟨Int32.le_iff_toInt_le.mp (Int32.not_lt.mp c1), Int32.le_iff_toInt_le.mp (Int32.not_lt.mp c4)⟩⟩, by rw [ht]; exact hP9, hD9⟩, hS.F ht⟩) hS.2.2 dX11_isIn_15
def rm_s11_isLetter : Room := { frames := 0, cells := 0, slots := 0, locals := 0 }
set_option maxHeartbeats 4000000 in
set_option maxRecDepth 100000 in
theorem s11_isLetter (l : Launch) (dC : Nat → ClassId) (dI : Nat → Nat → Nat) (kB kI kJ kZ kC kS : ClassId) (sz : Nat) (p0 : Int32) : Met l yX11_isLetter wsX11_isLetter rm_s11_isLetter (va_Pc [.int p0] (fun U => U.heap.size = sz ∧ va_P (dC, dI) vwCl [] U.heap ∧ kE dC dI kB kI kJ kZ kC kS U ∧ va_D (fun _ => True) [])) (va_Qi (fun (r : Int32) (_ : Unit) => r = isLt p0 ∧ iv 0 1 r) (fun _ t => va_P (dC, dI) vwCl [] t.heap ∧ va_D (va_A [] sz) []) (va_A [] sz)) 0 0 (va_A [] sz) := by
  refine Met.ofW (cc := cX11_isLetter) (maxL := 1) (ret := (some .boolean)) (by decide) rfl ?_
  intro p e s m args0 below meth c s₁ B hml hv
  obtain ⟨hargs, hsz, hP, hE, hD0⟩ := hv
  have hx := B.exec
  have hb := B.bytes
  have hr := B.returns
  have hts := atoms_spec (ws := wsX11_isLetter) B.pre
  have hown : s.vm.findClass RX11 = some m.cls := findClass_of_methodNamed B.named
  have hlocks := B.notSynchronized
  have hK := hE.1
  subst hsz
  have hD := hD0.self (sz := s.heap.size)
  generalize hAe : va_A [] s.heap.size = A at hD ⊢
  have hA : ∀ q : Nat, s.heap.size ≤ q → A q := fun q h => by rw [← hAe]; exact Or.inr h
  have hS : va_S A s.heap s.heap [] := va_S.rf
  have hP : va_P (dC, dI) vwCl [] s.heap := hP
  have hl := lv_entry ([.int p0]) (n := 1) (Nat.le_of_ble_eq_true rfl)
  have hla : entryFrame m args0 1 = entryFrame m ([.int p0] : List Value).toArray 1 := by rw [hargs]
  rw [hla, lg_entry_eq]
  generalize (lg_sl ([.int p0]) ++ List.replicate (1 - (lg_sl ([.int p0])).length) Slot.unset).toArray = ls at hl ⊢
  have hl : lv_has ls 1 [(0, .int p0)] := hl
  refine lv_iload_n hx hb dX11_isLetter_0 rfl (lv_at hl 0 rfl) ?_
  refine lv_bipush (v := 97) hx hb dX11_isLetter_1 bp_97 ?_
  refine lv_icmp_lt (tgt := 16) hx hb dX11_isLetter_3 rfl (fun c1 => ?_) (fun c1 => ?_)
  · have b2 : iv (-2147483648) 96 p0 := iv_ltL c1 (iv_t p0) ivk_97 (by decide) (by decide)
    refine lv_iconst (v := 0) hx hb dX11_isLetter_16 ic_0 ?_
    have hP9 := hP
    have hD9 := hD
    exact W.zret (v := 0) (ty := .boolean) hx hb hr rfl (fun t ht hW => ⟨⟨0, (), rfl, ⟨(isLt_a c1).symm, (iv_w ivk_0 (by decide) (by decide))⟩, by rw [ht]; exact hP9, hD9⟩, hS.F ht⟩) hS.2.2 dX11_isLetter_17
  · have b3 : iv 97 2147483647 p0 := iv_leR (Int32.not_lt.mp c1) ivk_97 (iv_t p0) (by decide) (by decide)
    refine lv_iload_n hx hb dX11_isLetter_6 rfl (lv_at hl 0 rfl) ?_
    refine lv_bipush (v := 122) hx hb dX11_isLetter_7 bp_122 ?_
    refine lv_icmp_gt (tgt := 16) hx hb dX11_isLetter_9 rfl (fun c4 => ?_) (fun c4 => ?_)
    · have b5 : iv 123 2147483647 p0 := iv_ltR c4 ivk_122 b3 (by decide) (by decide)
      refine lv_iconst (v := 0) hx hb dX11_isLetter_16 ic_0 ?_
      have hP9 := hP
      have hD9 := hD
      exact W.zret (v := 0) (ty := .boolean) hx hb hr rfl (fun t ht hW => ⟨⟨0, (), rfl, ⟨(isLt_b c4).symm, (iv_w ivk_0 (by decide) (by decide))⟩, by rw [ht]; exact hP9, hD9⟩, hS.F ht⟩) hS.2.2 dX11_isLetter_17
    · have b6 : iv 97 122 p0 := iv_leL (Int32.not_lt.mp c4) b3 ivk_122 (by decide) (by decide)
      refine lv_iconst (v := 1) hx hb dX11_isLetter_12 ic_1 ?_
      refine lv_goto (tgt := 17) hx hb dX11_isLetter_13 rfl ?_
      have hP9 := hP
      have hD9 := hD
      exact W.zret (v := 1) (ty := .boolean) hx hb hr rfl (fun t ht hW => ⟨⟨1, (), rfl, ⟨(isLt_t (Int32.not_lt.mp c1) (Int32.not_lt.mp c4)).symm, (iv_w ivk_1 (by decide) (by decide))⟩, by rw [ht]; exact hP9, hD9⟩, hS.F ht⟩) hS.2.2 dX11_isLetter_17
def rm_s11_isDigit : Room := { frames := 0, cells := 0, slots := 0, locals := 0 }
set_option maxHeartbeats 4000000 in
set_option maxRecDepth 100000 in
theorem s11_isDigit (l : Launch) (dC : Nat → ClassId) (dI : Nat → Nat → Nat) (kB kI kJ kZ kC kS : ClassId) (sz : Nat) (p0 : Int32) : Met l yX11_isDigit wsX11_isDigit rm_s11_isDigit (va_Pc [.int p0] (fun U => U.heap.size = sz ∧ va_P (dC, dI) vwCl [] U.heap ∧ kE dC dI kB kI kJ kZ kC kS U ∧ va_D (fun _ => True) [])) (va_Qi (fun (r : Int32) (_ : Unit) => r = isDg p0 ∧ iv 0 1 r) (fun _ t => va_P (dC, dI) vwCl [] t.heap ∧ va_D (va_A [] sz) []) (va_A [] sz)) 0 0 (va_A [] sz) := by
  refine Met.ofW (cc := cX11_isDigit) (maxL := 1) (ret := (some .boolean)) (by decide) rfl ?_
  intro p e s m args0 below meth c s₁ B hml hv
  obtain ⟨hargs, hsz, hP, hE, hD0⟩ := hv
  have hx := B.exec
  have hb := B.bytes
  have hr := B.returns
  have hts := atoms_spec (ws := wsX11_isDigit) B.pre
  have hown : s.vm.findClass RX11 = some m.cls := findClass_of_methodNamed B.named
  have hlocks := B.notSynchronized
  have hK := hE.1
  subst hsz
  have hD := hD0.self (sz := s.heap.size)
  generalize hAe : va_A [] s.heap.size = A at hD ⊢
  have hA : ∀ q : Nat, s.heap.size ≤ q → A q := fun q h => by rw [← hAe]; exact Or.inr h
  have hS : va_S A s.heap s.heap [] := va_S.rf
  have hP : va_P (dC, dI) vwCl [] s.heap := hP
  have hl := lv_entry ([.int p0]) (n := 1) (Nat.le_of_ble_eq_true rfl)
  have hla : entryFrame m args0 1 = entryFrame m ([.int p0] : List Value).toArray 1 := by rw [hargs]
  rw [hla, lg_entry_eq]
  generalize (lg_sl ([.int p0]) ++ List.replicate (1 - (lg_sl ([.int p0])).length) Slot.unset).toArray = ls at hl ⊢
  have hl : lv_has ls 1 [(0, .int p0)] := hl
  refine lv_iload_n hx hb dX11_isDigit_0 rfl (lv_at hl 0 rfl) ?_
  refine lv_bipush (v := 48) hx hb dX11_isDigit_1 bp_48 ?_
  refine lv_icmp_lt (tgt := 16) hx hb dX11_isDigit_3 rfl (fun c1 => ?_) (fun c1 => ?_)
  · have b2 : iv (-2147483648) 47 p0 := iv_ltL c1 (iv_t p0) ivk_48 (by decide) (by decide)
    refine lv_iconst (v := 0) hx hb dX11_isDigit_16 ic_0 ?_
    have hP9 := hP
    have hD9 := hD
    exact W.zret (v := 0) (ty := .boolean) hx hb hr rfl (fun t ht hW => ⟨⟨0, (), rfl, ⟨(isDg_a c1).symm, (iv_w ivk_0 (by decide) (by decide))⟩, by rw [ht]; exact hP9, hD9⟩, hS.F ht⟩) hS.2.2 dX11_isDigit_17
  · have b3 : iv 48 2147483647 p0 := iv_leR (Int32.not_lt.mp c1) ivk_48 (iv_t p0) (by decide) (by decide)
    refine lv_iload_n hx hb dX11_isDigit_6 rfl (lv_at hl 0 rfl) ?_
    refine lv_bipush (v := 57) hx hb dX11_isDigit_7 bp_57 ?_
    refine lv_icmp_gt (tgt := 16) hx hb dX11_isDigit_9 rfl (fun c4 => ?_) (fun c4 => ?_)
    · have b5 : iv 58 2147483647 p0 := iv_ltR c4 ivk_57 b3 (by decide) (by decide)
      refine lv_iconst (v := 0) hx hb dX11_isDigit_16 ic_0 ?_
      have hP9 := hP
      have hD9 := hD
      exact W.zret (v := 0) (ty := .boolean) hx hb hr rfl (fun t ht hW => ⟨⟨0, (), rfl, ⟨(isDg_b c4).symm, (iv_w ivk_0 (by decide) (by decide))⟩, by rw [ht]; exact hP9, hD9⟩, hS.F ht⟩) hS.2.2 dX11_isDigit_17
    · have b6 : iv 48 57 p0 := iv_leL (Int32.not_lt.mp c4) b3 ivk_57 (by decide) (by decide)
      refine lv_iconst (v := 1) hx hb dX11_isDigit_12 ic_1 ?_
      refine lv_goto (tgt := 17) hx hb dX11_isDigit_13 rfl ?_
      have hP9 := hP
      have hD9 := hD
      exact W.zret (v := 1) (ty := .boolean) hx hb hr rfl (fun t ht hW => ⟨⟨1, (), rfl, ⟨(isDg_t (Int32.not_lt.mp c1) (Int32.not_lt.mp c4)).symm, (iv_w ivk_1 (by decide) (by decide))⟩, by rw [ht]; exact hP9, hD9⟩, hS.F ht⟩) hS.2.2 dX11_isDigit_17
def rm_s11_fault : Room := { frames := 0, cells := 0, slots := 0, locals := 0 }
set_option maxHeartbeats 4000000 in
set_option maxRecDepth 100000 in
theorem s11_fault (l : Launch) (dC : Nat → ClassId) (dI : Nat → Nat → Nat) (kB kI kJ kZ kC kS : ClassId) (sz : Nat) (m0 : Nat) (ra : Nat → Nat) (x0 : Nat → Int32) (hX : fI lX11 hX11 x0) : Met l yX11_fault wsX11_fault rm_s11_fault (va_Pc [.ref m0] (fun U => U.heap.size = sz ∧ va_P (dC, dI) vwCl [(m0, .inr (11, oX11 ra x0))] U.heap ∧ kE dC dI kB kI kJ kZ kC kS U ∧ va_D (fun _ => True) [(m0, .inr (11, oX11 ra x0))])) (va_Qi (fun (r : Int32) (_ : Unit) => True) (fun _ t => ∃ (x0' : Nat → Int32), fI lX11 hX11 x0' ∧ (x0' 1 = x0 1) ∧ (x0' 10 = x0 10) ∧ (x0' 11 = x0 11) ∧ (x0' 14 = x0 14) ∧ va_P (dC, dI) vwCl [(m0, .inr (11, oX11 ra x0'))] t.heap ∧ va_D (va_A [(m0, .inr (11, oX11 ra x0))] sz) [(m0, .inr (11, oX11 ra x0'))]) (va_A [(m0, .inr (11, oX11 ra x0))] sz)) 0 0 (va_A [(m0, .inr (11, oX11 ra x0))] sz) := by
  refine Met.ofW (cc := cX11_fault) (maxL := 1) (ret := (some .int)) (by decide) rfl ?_
  intro p e s m args0 below meth c s₁ B hml hv
  obtain ⟨hargs, hsz, hP, hE, hD0⟩ := hv
  have hx := B.exec
  have hb := B.bytes
  have hr := B.returns
  have hts := atoms_spec (ws := wsX11_fault) B.pre
  have hown : s.vm.findClass RX11 = some m.cls := findClass_of_methodNamed B.named
  have hlocks := B.notSynchronized
  have hK := hE.1
  have hin11 : ∀ w ∈ wsX110, w ∈ wsX11_fault := fun _ h9 => List.mem_cons_of_mem _ (List.mem_append_right _ h9)
  have hw_0 := hts (.fieldLink RX11 142 "PathProberModel" "code" "I") (List.mem_of_getElem? (i := 1) rfl)
  have hw_1 := hts (.fieldLink RX11 69 "PathProberModel" "faultPlace" "I") (List.mem_of_getElem? (i := 2) rfl)
  subst hsz
  have hD := hD0.self (sz := s.heap.size)
  generalize hAe : va_A [(m0, .inr (11, oX11 ra x0))] s.heap.size = A at hD ⊢
  have hA : ∀ q : Nat, s.heap.size ≤ q → A q := fun q h => by rw [← hAe]; exact Or.inr h
  have hS : va_S A s.heap s.heap [] := va_S.rf
  have hP : va_P (dC, dI) vwCl [(m0, .inr (11, oX11 ra x0))] s.heap := hP
  have hl := lv_entry ([.ref m0]) (n := 1) (Nat.le_of_ble_eq_true rfl)
  have hla : entryFrame m args0 1 = entryFrame m ([.ref m0] : List Value).toArray 1 := by rw [hargs]
  rw [hla, lg_entry_eq]
  generalize (lg_sl ([.ref m0]) ++ List.replicate (1 - (lg_sl ([.ref m0])).length) Slot.unset).toArray = ls at hl ⊢
  have hl : lv_has ls 1 [(0, .ref m0)] := hl
  refine lv_aload_n hx hb dX11_fault_0 rfl (lv_at hl 0 rfl) ?_
  refine lv_iconst (v := 0) hx hb dX11_fault_1 ic_0 ?_
  refine va_put (D := (dC, dI)) (ci := 11) (v := .int 0) (ty := .int) (C := RX11) (T := TX11) (N := 61) hx hb hts hin11 tyX11 tyX11_ok nmX11 hown hK hP hD hS 0 rfl rfl 2 (by decide) hw_0 (fun _ h9 => h9) rfl (by decide +kernel) rfl rfl (Nat.le_of_ble_eq_true rfl) dX11_fault_2 (fun H locs hPa hDa hS => ?_)
  clear hP hD
  have hP : va_P (dC, dI) vwCl [(m0, .inr (11, oX11 ra (upd x0 0 0)))] H := hPa
  have hD : va_D A [(m0, .inr (11, oX11 ra (upd x0 0 0)))] := hDa
  clear hPa hDa
  refine lv_aload_n hx hb dX11_fault_5 rfl (lv_at hl 0 rfl) ?_
  refine va_get (D := (dC, dI)) (ci := 11) (v := .int (x0 10)) (C := RX11) (T := TX11) (N := 61) hx hb hts hin11 hown hK hP 0 rfl rfl 24 (Nat.le_of_ble_eq_true rfl) hw_1 (fun _ h9 => h9) rfl dX11_fault_6 ?_
  have hP9 := hP
  have hD9 := hD
  exact W.iret (v := x0 10) hx hb hr (fun t ht hW => ⟨⟨x0 10, (), rfl, trivial, upd x0 0 0, (fI_u hX (k := 0) ((iv_w ivk_0 (by decide) (by decide)))), (show x0 1 = x0 1 from rfl), (show x0 10 = x0 10 from rfl), (show x0 11 = x0 11 from rfl), (show x0 14 = x0 14 from rfl), by rw [ht]; exact hP9, hD9⟩, hS.F ht⟩) hS.2.2 dX11_fault_9
def rm_s11_routers : Room := { frames := 0, cells := 0, slots := 0, locals := 0 }
set_option maxHeartbeats 4000000 in
set_option maxRecDepth 100000 in
theorem s11_routers (l : Launch) (dC : Nat → ClassId) (dI : Nat → Nat → Nat) (kB kI kJ kZ kC kS : ClassId) (sz : Nat) (m0 : Nat) (ra : Nat → Nat) (x0 : Nat → Int32) (q_told : Nat → Int32) (hX : fI lX11 hX11 x0) (hq_told : fI lTold hTold q_told) : Met l yX11_routers wsX11_routers rm_s11_routers (va_Pc [.ref m0] (fun U => U.heap.size = sz ∧ va_P (dC, dI) vwCl [(m0, .inr (11, oX11 ra x0)), (ra 2, .inl (kI, 8, .inl q_told))] U.heap ∧ kE dC dI kB kI kJ kZ kC kS U ∧ va_D (fun _ => True) [(m0, .inr (11, oX11 ra x0)), (ra 2, .inl (kI, 8, .inl q_told))])) (va_Qi (fun (r : Int32) (_ : Unit) => r = q_told 0) (fun _ t => va_P (dC, dI) vwCl [(m0, .inr (11, oX11 ra x0)), (ra 2, .inl (kI, 8, .inl q_told))] t.heap ∧ va_D (va_A [(m0, .inr (11, oX11 ra x0)), (ra 2, .inl (kI, 8, .inl q_told))] sz) [(m0, .inr (11, oX11 ra x0)), (ra 2, .inl (kI, 8, .inl q_told))]) (va_A [(m0, .inr (11, oX11 ra x0)), (ra 2, .inl (kI, 8, .inl q_told))] sz)) 0 0 (va_A [(m0, .inr (11, oX11 ra x0)), (ra 2, .inl (kI, 8, .inl q_told))] sz) := by
  refine Met.ofW (cc := cX11_routers) (maxL := 1) (ret := (some .int)) (by decide) rfl ?_
  intro p e s m args0 below meth c s₁ B hml hv
  obtain ⟨hargs, hsz, hP, hE, hD0⟩ := hv
  have hx := B.exec
  have hb := B.bytes
  have hr := B.returns
  have hts := atoms_spec (ws := wsX11_routers) B.pre
  have hown : s.vm.findClass RX11 = some m.cls := findClass_of_methodNamed B.named
  have hlocks := B.notSynchronized
  have hK := hE.1
  have hin11 : ∀ w ∈ wsX110, w ∈ wsX11_routers := fun _ h9 => List.mem_cons_of_mem _ (List.mem_append_right _ h9)
  have hw_0 := hts (.fieldLink RX11 34 "PathProberModel" "told" "[I") (List.mem_of_getElem? (i := 1) rfl)
  subst hsz
  have hD := hD0.self (sz := s.heap.size)
  generalize hAe : va_A [(m0, .inr (11, oX11 ra x0)), (ra 2, .inl (kI, 8, .inl q_told))] s.heap.size = A at hD ⊢
  have hA : ∀ q : Nat, s.heap.size ≤ q → A q := fun q h => by rw [← hAe]; exact Or.inr h
  have hS : va_S A s.heap s.heap [] := va_S.rf
  have hP : va_P (dC, dI) vwCl [(m0, .inr (11, oX11 ra x0)), (ra 2, .inl (kI, 8, .inl q_told))] s.heap := hP
  have hl := lv_entry ([.ref m0]) (n := 1) (Nat.le_of_ble_eq_true rfl)
  have hla : entryFrame m args0 1 = entryFrame m ([.ref m0] : List Value).toArray 1 := by rw [hargs]
  rw [hla, lg_entry_eq]
  generalize (lg_sl ([.ref m0]) ++ List.replicate (1 - (lg_sl ([.ref m0])).length) Slot.unset).toArray = ls at hl ⊢
  have hl : lv_has ls 1 [(0, .ref m0)] := hl
  refine lv_aload_n hx hb dX11_routers_0 rfl (lv_at hl 0 rfl) ?_
  refine va_get (D := (dC, dI)) (ci := 11) (v := .ref (ra 2)) (C := RX11) (T := TX11) (N := 61) hx hb hts hin11 hown hK hP 0 rfl rfl 3 (Nat.le_of_ble_eq_true rfl) hw_0 (fun _ h9 => h9) rfl dX11_routers_1 ?_
  refine lv_iconst (v := 0) hx hb dX11_routers_4 ic_0 ?_
  refine va_iald hx hb hK hP 1 1 rfl rfl (vp_in_nI (n := 0) (by decide) (by decide)) dX11_routers_5 ?_
  refine W.eq (g2 := F0 m 6 ls [.int (q_told 0)]) rfl ?_
  have hP9 := hP
  have hD9 := hD
  exact W.iret (v := q_told 0) hx hb hr (fun t ht hW => ⟨⟨q_told 0, (), rfl, rfl, by rw [ht]; exact hP9, hD9⟩, hS.F ht⟩) hS.2.2 dX11_routers_6
def rm_s11_links : Room := { frames := 0, cells := 0, slots := 0, locals := 0 }
set_option maxHeartbeats 4000000 in
set_option maxRecDepth 100000 in
theorem s11_links (l : Launch) (dC : Nat → ClassId) (dI : Nat → Nat → Nat) (kB kI kJ kZ kC kS : ClassId) (sz : Nat) (m0 : Nat) (ra : Nat → Nat) (x0 : Nat → Int32) (q_told : Nat → Int32) (hX : fI lX11 hX11 x0) (hq_told : fI lTold hTold q_told) : Met l yX11_links wsX11_links rm_s11_links (va_Pc [.ref m0] (fun U => U.heap.size = sz ∧ va_P (dC, dI) vwCl [(m0, .inr (11, oX11 ra x0)), (ra 2, .inl (kI, 8, .inl q_told))] U.heap ∧ kE dC dI kB kI kJ kZ kC kS U ∧ va_D (fun _ => True) [(m0, .inr (11, oX11 ra x0)), (ra 2, .inl (kI, 8, .inl q_told))])) (va_Qi (fun (r : Int32) (_ : Unit) => r = q_told 1) (fun _ t => va_P (dC, dI) vwCl [(m0, .inr (11, oX11 ra x0)), (ra 2, .inl (kI, 8, .inl q_told))] t.heap ∧ va_D (va_A [(m0, .inr (11, oX11 ra x0)), (ra 2, .inl (kI, 8, .inl q_told))] sz) [(m0, .inr (11, oX11 ra x0)), (ra 2, .inl (kI, 8, .inl q_told))]) (va_A [(m0, .inr (11, oX11 ra x0)), (ra 2, .inl (kI, 8, .inl q_told))] sz)) 0 0 (va_A [(m0, .inr (11, oX11 ra x0)), (ra 2, .inl (kI, 8, .inl q_told))] sz) := by
  refine Met.ofW (cc := cX11_links) (maxL := 1) (ret := (some .int)) (by decide) rfl ?_
  intro p e s m args0 below meth c s₁ B hml hv
  obtain ⟨hargs, hsz, hP, hE, hD0⟩ := hv
  have hx := B.exec
  have hb := B.bytes
  have hr := B.returns
  have hts := atoms_spec (ws := wsX11_links) B.pre
  have hown : s.vm.findClass RX11 = some m.cls := findClass_of_methodNamed B.named
  have hlocks := B.notSynchronized
  have hK := hE.1
  have hin11 : ∀ w ∈ wsX110, w ∈ wsX11_links := fun _ h9 => List.mem_cons_of_mem _ (List.mem_append_right _ h9)
  have hw_0 := hts (.fieldLink RX11 34 "PathProberModel" "told" "[I") (List.mem_of_getElem? (i := 1) rfl)
  subst hsz
  have hD := hD0.self (sz := s.heap.size)
  generalize hAe : va_A [(m0, .inr (11, oX11 ra x0)), (ra 2, .inl (kI, 8, .inl q_told))] s.heap.size = A at hD ⊢
  have hA : ∀ q : Nat, s.heap.size ≤ q → A q := fun q h => by rw [← hAe]; exact Or.inr h
  have hS : va_S A s.heap s.heap [] := va_S.rf
  have hP : va_P (dC, dI) vwCl [(m0, .inr (11, oX11 ra x0)), (ra 2, .inl (kI, 8, .inl q_told))] s.heap := hP
  have hl := lv_entry ([.ref m0]) (n := 1) (Nat.le_of_ble_eq_true rfl)
  have hla : entryFrame m args0 1 = entryFrame m ([.ref m0] : List Value).toArray 1 := by rw [hargs]
  rw [hla, lg_entry_eq]
  generalize (lg_sl ([.ref m0]) ++ List.replicate (1 - (lg_sl ([.ref m0])).length) Slot.unset).toArray = ls at hl ⊢
  have hl : lv_has ls 1 [(0, .ref m0)] := hl
  refine lv_aload_n hx hb dX11_links_0 rfl (lv_at hl 0 rfl) ?_
  refine va_get (D := (dC, dI)) (ci := 11) (v := .ref (ra 2)) (C := RX11) (T := TX11) (N := 61) hx hb hts hin11 hown hK hP 0 rfl rfl 3 (Nat.le_of_ble_eq_true rfl) hw_0 (fun _ h9 => h9) rfl dX11_links_1 ?_
  refine lv_iconst (v := 1) hx hb dX11_links_4 ic_1 ?_
  refine va_iald hx hb hK hP 1 1 rfl rfl (vp_in_nI (n := 1) (by decide) (by decide)) dX11_links_5 ?_
  refine W.eq (g2 := F0 m 6 ls [.int (q_told 1)]) rfl ?_
  have hP9 := hP
  have hD9 := hD
  exact W.iret (v := q_told 1) hx hb hr (fun t ht hW => ⟨⟨q_told 1, (), rfl, rfl, by rw [ht]; exact hP9, hD9⟩, hS.F ht⟩) hS.2.2 dX11_links_6
def rm_s11_goals : Room := { frames := 0, cells := 0, slots := 0, locals := 0 }
set_option maxHeartbeats 4000000 in
set_option maxRecDepth 100000 in
theorem s11_goals (l : Launch) (dC : Nat → ClassId) (dI : Nat → Nat → Nat) (kB kI kJ kZ kC kS : ClassId) (sz : Nat) (m0 : Nat) (ra : Nat → Nat) (x0 : Nat → Int32) (q_told : Nat → Int32) (hX : fI lX11 hX11 x0) (hq_told : fI lTold hTold q_told) : Met l yX11_goals wsX11_goals rm_s11_goals (va_Pc [.ref m0] (fun U => U.heap.size = sz ∧ va_P (dC, dI) vwCl [(m0, .inr (11, oX11 ra x0)), (ra 2, .inl (kI, 8, .inl q_told))] U.heap ∧ kE dC dI kB kI kJ kZ kC kS U ∧ va_D (fun _ => True) [(m0, .inr (11, oX11 ra x0)), (ra 2, .inl (kI, 8, .inl q_told))])) (va_Qi (fun (r : Int32) (_ : Unit) => r = q_told 2) (fun _ t => va_P (dC, dI) vwCl [(m0, .inr (11, oX11 ra x0)), (ra 2, .inl (kI, 8, .inl q_told))] t.heap ∧ va_D (va_A [(m0, .inr (11, oX11 ra x0)), (ra 2, .inl (kI, 8, .inl q_told))] sz) [(m0, .inr (11, oX11 ra x0)), (ra 2, .inl (kI, 8, .inl q_told))]) (va_A [(m0, .inr (11, oX11 ra x0)), (ra 2, .inl (kI, 8, .inl q_told))] sz)) 0 0 (va_A [(m0, .inr (11, oX11 ra x0)), (ra 2, .inl (kI, 8, .inl q_told))] sz) := by
  refine Met.ofW (cc := cX11_goals) (maxL := 1) (ret := (some .int)) (by decide) rfl ?_
  intro p e s m args0 below meth c s₁ B hml hv
  obtain ⟨hargs, hsz, hP, hE, hD0⟩ := hv
  have hx := B.exec
  have hb := B.bytes
  have hr := B.returns
  have hts := atoms_spec (ws := wsX11_goals) B.pre
  have hown : s.vm.findClass RX11 = some m.cls := findClass_of_methodNamed B.named
  have hlocks := B.notSynchronized
  have hK := hE.1
  have hin11 : ∀ w ∈ wsX110, w ∈ wsX11_goals := fun _ h9 => List.mem_cons_of_mem _ (List.mem_append_right _ h9)
  have hw_0 := hts (.fieldLink RX11 34 "PathProberModel" "told" "[I") (List.mem_of_getElem? (i := 1) rfl)
  subst hsz
  have hD := hD0.self (sz := s.heap.size)
  generalize hAe : va_A [(m0, .inr (11, oX11 ra x0)), (ra 2, .inl (kI, 8, .inl q_told))] s.heap.size = A at hD ⊢
  have hA : ∀ q : Nat, s.heap.size ≤ q → A q := fun q h => by rw [← hAe]; exact Or.inr h
  have hS : va_S A s.heap s.heap [] := va_S.rf
  have hP : va_P (dC, dI) vwCl [(m0, .inr (11, oX11 ra x0)), (ra 2, .inl (kI, 8, .inl q_told))] s.heap := hP
  have hl := lv_entry ([.ref m0]) (n := 1) (Nat.le_of_ble_eq_true rfl)
  have hla : entryFrame m args0 1 = entryFrame m ([.ref m0] : List Value).toArray 1 := by rw [hargs]
  rw [hla, lg_entry_eq]
  generalize (lg_sl ([.ref m0]) ++ List.replicate (1 - (lg_sl ([.ref m0])).length) Slot.unset).toArray = ls at hl ⊢
  have hl : lv_has ls 1 [(0, .ref m0)] := hl
  refine lv_aload_n hx hb dX11_goals_0 rfl (lv_at hl 0 rfl) ?_
  refine va_get (D := (dC, dI)) (ci := 11) (v := .ref (ra 2)) (C := RX11) (T := TX11) (N := 61) hx hb hts hin11 hown hK hP 0 rfl rfl 3 (Nat.le_of_ble_eq_true rfl) hw_0 (fun _ h9 => h9) rfl dX11_goals_1 ?_
  refine lv_iconst (v := 2) hx hb dX11_goals_4 ic_2 ?_
  refine va_iald hx hb hK hP 1 1 rfl rfl (vp_in_nI (n := 2) (by decide) (by decide)) dX11_goals_5 ?_
  refine W.eq (g2 := F0 m 6 ls [.int (q_told 2)]) rfl ?_
  have hP9 := hP
  have hD9 := hD
  exact W.iret (v := q_told 2) hx hb hr (fun t ht hW => ⟨⟨q_told 2, (), rfl, rfl, by rw [ht]; exact hP9, hD9⟩, hS.F ht⟩) hS.2.2 dX11_goals_6
def rm_s11_wrong : Room := { frames := 0, cells := 0, slots := 0, locals := 0 }
set_option maxHeartbeats 4000000 in
set_option maxRecDepth 100000 in
theorem s11_wrong (l : Launch) (dC : Nat → ClassId) (dI : Nat → Nat → Nat) (kB kI kJ kZ kC kS : ClassId) (sz : Nat) (m0 : Nat) (ra : Nat → Nat) (x0 : Nat → Int32) (p0 : Int32) (tT : Nat → Int32) (nN : Int32) (sS : StT) (hX : fI lX11 hX11 x0) (hp0 : iv 1 5 p0) (hRr : RRd tT nN x0 sS) : Met l yX11_wrong wsX11_wrong rm_s11_wrong (va_Pc [.ref m0, .int p0] (fun U => U.heap.size = sz ∧ va_P (dC, dI) vwCl [(m0, .inr (11, oX11 ra x0))] U.heap ∧ kE dC dI kB kI kJ kZ kC kS U ∧ va_D (fun _ => True) [(m0, .inr (11, oX11 ra x0))])) (va_Qv (fun (_ : Unit) => True) (fun _ t => ∃ (x0' : Nat → Int32), fI lX11 hX11 x0' ∧ iv 1 5 (x0' 8) ∧ ((x0' 2).toInt = (x0 2).toInt) ∧ (x0' 3 = x0 3) ∧ (RRd tT nN x0' (failT p0 sS)) ∧ (x0' 1 = x0 1) ∧ (x0' 10 = x0 10) ∧ (x0' 11 = x0 11) ∧ (x0' 14 = x0 14) ∧ va_P (dC, dI) vwCl [(m0, .inr (11, oX11 ra x0'))] t.heap ∧ va_D (va_A [(m0, .inr (11, oX11 ra x0))] sz) [(m0, .inr (11, oX11 ra x0'))]) (va_A [(m0, .inr (11, oX11 ra x0))] sz)) 0 0 (va_A [(m0, .inr (11, oX11 ra x0))] sz) := by
  refine Met.ofW (cc := cX11_wrong) (maxL := 2) (ret := none) (by decide) rfl ?_
  intro p e s m args0 below meth c s₁ B hml hv
  obtain ⟨hargs, hsz, hP, hE, hD0⟩ := hv
  have hx := B.exec
  have hb := B.bytes
  have hr := B.returns
  have hts := atoms_spec (ws := wsX11_wrong) B.pre
  have hown : s.vm.findClass RX11 = some m.cls := findClass_of_methodNamed B.named
  have hlocks := B.notSynchronized
  have hK := hE.1
  have hin11 : ∀ w ∈ wsX110, w ∈ wsX11_wrong := fun _ h9 => List.mem_cons_of_mem _ (List.mem_append_right _ h9)
  have hw_0 := hts (.fieldLink RX11 184 "PathProberModel" "bad" "I") (List.mem_of_getElem? (i := 1) rfl)
  have hw_1 := hts (.fieldLink RX11 158 "PathProberModel" "begins" "I") (List.mem_of_getElem? (i := 2) rfl)
  have hw_2 := hts (.fieldLink RX11 187 "PathProberModel" "badPlace" "I") (List.mem_of_getElem? (i := 3) rfl)
  subst hsz
  have hD := hD0.self (sz := s.heap.size)
  generalize hAe : va_A [(m0, .inr (11, oX11 ra x0))] s.heap.size = A at hD ⊢
  have hA : ∀ q : Nat, s.heap.size ≤ q → A q := fun q h => by rw [← hAe]; exact Or.inr h
  have hS : va_S A s.heap s.heap [] := va_S.rf
  have hP : va_P (dC, dI) vwCl [(m0, .inr (11, oX11 ra x0))] s.heap := hP
  have hl := lv_entry ([.ref m0, .int p0]) (n := 2) (Nat.le_of_ble_eq_true rfl)
  have hla : entryFrame m args0 2 = entryFrame m ([.ref m0, .int p0] : List Value).toArray 2 := by rw [hargs]
  rw [hla, lg_entry_eq]
  generalize (lg_sl ([.ref m0, .int p0]) ++ List.replicate (2 - (lg_sl ([.ref m0, .int p0])).length) Slot.unset).toArray = ls at hl ⊢
  have hl : lv_has ls 2 [(0, .ref m0), (1, .int p0)] := hl
  refine lv_aload_n hx hb dX11_wrong_0 rfl (lv_at hl 0 rfl) ?_
  refine va_get (D := (dC, dI)) (ci := 11) (v := .int (x0 8)) (C := RX11) (T := TX11) (N := 61) hx hb hts hin11 hown hK hP 0 rfl rfl 22 (Nat.le_of_ble_eq_true rfl) hw_0 (fun _ h9 => h9) rfl dX11_wrong_1 ?_
  refine lv_if_eq (tgt := 8) hx hb dX11_wrong_4 rfl (fun c1 => ?_) (fun c1 => ?_)
  · have b2 : iv 0 0 (x0 8) := iv_eqL c1 ivk_0
    refine lv_aload_n hx hb dX11_wrong_8 rfl (lv_at hl 0 rfl) ?_
    refine lv_iload_n hx hb dX11_wrong_9 rfl (lv_at hl 1 rfl) ?_
    refine va_put (D := (dC, dI)) (ci := 11) (v := .int p0) (ty := .int) (C := RX11) (T := TX11) (N := 61) hx hb hts hin11 tyX11 tyX11_ok nmX11 hown hK hP hD hS 0 rfl rfl 22 (by decide) hw_0 (fun _ h9 => h9) rfl (by decide +kernel) rfl rfl (Nat.le_of_ble_eq_true rfl) dX11_wrong_10 (fun H locs hPa hDa hS => ?_)
    clear hP hD
    have hP : va_P (dC, dI) vwCl [(m0, .inr (11, oX11 ra (upd x0 8 p0)))] H := hPa
    have hD : va_D A [(m0, .inr (11, oX11 ra (upd x0 8 p0)))] := hDa
    clear hPa hDa
    refine lv_aload_n hx hb dX11_wrong_13 rfl (lv_at hl 0 rfl) ?_
    refine lv_aload_n hx hb dX11_wrong_14 rfl (lv_at hl 0 rfl) ?_
    refine va_get (D := (dC, dI)) (ci := 11) (v := .int (x0 6)) (C := RX11) (T := TX11) (N := 61) hx hb hts hin11 hown hK hP 0 rfl rfl 20 (Nat.le_of_ble_eq_true rfl) hw_1 (fun _ h9 => h9) rfl dX11_wrong_15 ?_
    refine va_put (D := (dC, dI)) (ci := 11) (v := .int (x0 6)) (ty := .int) (C := RX11) (T := TX11) (N := 61) hx hb hts hin11 tyX11 tyX11_ok nmX11 hown hK hP hD hS 0 rfl rfl 23 (by decide) hw_2 (fun _ h9 => h9) rfl (by decide +kernel) rfl rfl (Nat.le_of_ble_eq_true rfl) dX11_wrong_18 (fun H locs hPa hDa hS => ?_)
    clear hP hD
    have hP : va_P (dC, dI) vwCl [(m0, .inr (11, oX11 ra (upd (upd x0 8 p0) 9 (x0 6))))] H := hPa
    have hD : va_D A [(m0, .inr (11, oX11 ra (upd (upd x0 8 p0) 9 (x0 6))))] := hDa
    clear hPa hDa
    have hP9 := hP
    have hD9 := hD
    exact W.vret hx hb hr (fun t ht hW => ⟨⟨(), rfl, trivial, upd (upd x0 8 p0) 9 (x0 6), (fI_u (fI_u hX (k := 8) ((iv_w hp0 (by decide) (by decide)))) (k := 9) ((iv_w (hX 6 : iv 0 700 (x0 6)) (by decide) (by decide)))), hp0, (show (x0 2).toInt = (x0 2).toInt from rfl), (show x0 3 = x0 3 from rfl), rr_fail hRr c1 (iv_ne hp0 ivk_0 (by decide)), (show x0 1 = x0 1 from rfl), (show x0 10 = x0 10 from rfl), (show x0 11 = x0 11 from rfl), (show x0 14 = x0 14 from rfl), by rw [ht]; exact hP9, hD9⟩, hS.F ht⟩) hS.2.2 dX11_wrong_21
  · have b3 : iv 1 5 (x0 8) := iv_neLo c1 (hX 8 : iv 0 5 (x0 8)) ivk_0 (by decide) (by decide)
    have hP9 := hP
    have hD9 := hD
    exact W.vret hx hb hr (fun t ht hW => ⟨⟨(), rfl, trivial, x0, hX, b3, (show (x0 2).toInt = (x0 2).toInt from rfl), (show x0 3 = x0 3 from rfl), (show RRd tT nN x0 (failT p0 sS) from rr_failN hRr c1), (show x0 1 = x0 1 from rfl), (show x0 10 = x0 10 from rfl), (show x0 11 = x0 11 from rfl), (show x0 14 = x0 14 from rfl), by rw [ht]; exact hP9, hD9⟩, hS.F ht⟩) hS.2.2 dX11_wrong_7
def rm_s11_linksFrom : Room := { frames := 0, cells := 0, slots := 0, locals := 0 }
set_option maxHeartbeats 4000000 in
set_option maxRecDepth 100000 in
theorem s11_linksFrom (l : Launch) (dC : Nat → ClassId) (dI : Nat → Nat → Nat) (kB kI kJ kZ kC kS : ClassId) (sz : Nat) (m0 : Nat) (ra : Nat → Nat) (x0 : Nat → Int32) (q_told : Nat → Int32) (q_from : Nat → Int32) (p0 : Int32) (hX : fI lX11 hX11 x0) (hq_told : fI lTold hTold q_told) (hq_from : fI (fun _ => 0) (fun _ => 11) q_from) : Met l yX11_linksFrom wsX11_linksFrom rm_s11_linksFrom (va_Pc [.ref m0, .int p0] (fun U => U.heap.size = sz ∧ va_P (dC, dI) vwCl [(m0, .inr (11, oX11 ra x0)), (ra 2, .inl (kI, 8, .inl q_told)), (ra 8, .inl (kI, 40, .inl q_from))] U.heap ∧ kE dC dI kB kI kJ kZ kC kS U ∧ va_D (fun _ => True) [(m0, .inr (11, oX11 ra x0)), (ra 2, .inl (kI, 8, .inl q_told)), (ra 8, .inl (kI, 40, .inl q_from))])) (va_Qi (fun (r : Int32) (_ : Unit) => r = nI (cntT (shT 20 q_from) p0 (q_told 5).toNatClampNeg) ∧ iv 0 20 r) (fun _ t => va_P (dC, dI) vwCl [(m0, .inr (11, oX11 ra x0)), (ra 2, .inl (kI, 8, .inl q_told)), (ra 8, .inl (kI, 40, .inl q_from))] t.heap ∧ va_D (va_A [(m0, .inr (11, oX11 ra x0)), (ra 2, .inl (kI, 8, .inl q_told)), (ra 8, .inl (kI, 40, .inl q_from))] sz) [(m0, .inr (11, oX11 ra x0)), (ra 2, .inl (kI, 8, .inl q_told)), (ra 8, .inl (kI, 40, .inl q_from))]) (va_A [(m0, .inr (11, oX11 ra x0)), (ra 2, .inl (kI, 8, .inl q_told)), (ra 8, .inl (kI, 40, .inl q_from))] sz)) 0 0 (va_A [(m0, .inr (11, oX11 ra x0)), (ra 2, .inl (kI, 8, .inl q_told)), (ra 8, .inl (kI, 40, .inl q_from))] sz) := by
  refine Met.ofW (cc := cX11_linksFrom) (maxL := 4) (ret := (some .int)) (by decide) rfl ?_
  intro p e s m args0 below meth c s₁ B hml hv
  obtain ⟨hargs, hsz, hP, hE, hD0⟩ := hv
  have hx := B.exec
  have hb := B.bytes
  have hr := B.returns
  have hts := atoms_spec (ws := wsX11_linksFrom) B.pre
  have hown : s.vm.findClass RX11 = some m.cls := findClass_of_methodNamed B.named
  have hlocks := B.notSynchronized
  have hK := hE.1
  have hin11 : ∀ w ∈ wsX110, w ∈ wsX11_linksFrom := fun _ h9 => List.mem_cons_of_mem _ (List.mem_append_right _ h9)
  have hw_0 := hts (.fieldLink RX11 34 "PathProberModel" "told" "[I") (List.mem_of_getElem? (i := 1) rfl)
  have hw_1 := hts (.fieldLink RX11 53 "PathProberModel" "from" "[I") (List.mem_of_getElem? (i := 2) rfl)
  subst hsz
  have hD := hD0.self (sz := s.heap.size)
  generalize hAe : va_A [(m0, .inr (11, oX11 ra x0)), (ra 2, .inl (kI, 8, .inl q_told)), (ra 8, .inl (kI, 40, .inl q_from))] s.heap.size = A at hD ⊢
  have hA : ∀ q : Nat, s.heap.size ≤ q → A q := fun q h => by rw [← hAe]; exact Or.inr h
  have hS : va_S A s.heap s.heap [] := va_S.rf
  have hP : va_P (dC, dI) vwCl [(m0, .inr (11, oX11 ra x0)), (ra 2, .inl (kI, 8, .inl q_told)), (ra 8, .inl (kI, 40, .inl q_from))] s.heap := hP
  have hl := lv_entry ([.ref m0, .int p0]) (n := 4) (Nat.le_of_ble_eq_true rfl)
  have hla : entryFrame m args0 4 = entryFrame m ([.ref m0, .int p0] : List Value).toArray 4 := by rw [hargs]
  rw [hla, lg_entry_eq]
  generalize (lg_sl ([.ref m0, .int p0]) ++ List.replicate (4 - (lg_sl ([.ref m0, .int p0])).length) Slot.unset).toArray = ls at hl ⊢
  have hl : lv_has ls 4 [(0, .ref m0), (1, .int p0)] := hl
  have hJ4 : ∀ (n : Nat) (v4_loc2 : Int32) (v4_loc3 : Int32) (H : Heap) (locs : List Loc) (ls : Array Slot), (20 - v4_loc3.toInt).toNat < n → iv 0 20 v4_loc3 → (v4_loc2 = nI (cntT (shT 20 q_from) p0 v4_loc3.toNatClampNeg) ∧ v4_loc3.toInt ≤ (q_told 5).toInt) → (x0 1 = x0 1) → (x0 10 = x0 10) → (x0 11 = x0 11) → (x0 14 = x0 14) → va_P (dC, dI) vwCl [(m0, .inr (11, oX11 ra x0)), (ra 2, .inl (kI, 8, .inl q_told)), (ra 8, .inl (kI, 40, .inl q_from))] H → va_D A [(m0, .inr (11, oX11 ra x0)), (ra 2, .inl (kI, 8, .inl q_told)), (ra 8, .inl (kI, 40, .inl q_from))] → va_S A s.heap H locs → lv_has ls 4 [(0, .ref m0), (1, .int p0), (2, .int v4_loc2), (3, .int v4_loc3)] → W p l e (headSpec wsX11_linksFrom rm_s11_linksFrom).room s m args0 below meth c H locs (0) (0) (MQ below (va_Qi (fun (r : Int32) (_ : Unit) => r = nI (cntT (shT 20 q_from) p0 (q_told 5).toNatClampNeg) ∧ iv 0 20 r) (fun _ t => va_P (dC, dI) vwCl [(m0, .inr (11, oX11 ra x0)), (ra 2, .inl (kI, 8, .inl q_told)), (ra 8, .inl (kI, 40, .inl q_from))] t.heap ∧ va_D A [(m0, .inr (11, oX11 ra x0)), (ra 2, .inl (kI, 8, .inl q_told)), (ra 8, .inl (kI, 40, .inl q_from))]) A) args0 s 0 0 A) (F0 m 4 ls []) := by
    intro n
    induction n with
    | zero => intro v4_loc2 v4_loc3 H locs ls hm4; exact absurd hm4 (Nat.not_lt_zero _)
    | succ n ih4 =>
      intro v4_loc2 v4_loc3 H locs ls hm4 h4_1 hlf_4 htp_4 hfp_4 hor_4 hirl_4 hP hD hS hl
      refine lv_iload_n hx hb dX11_linksFrom_4 rfl (lv_at hl 3 rfl) ?_
      refine lv_aload_n hx hb dX11_linksFrom_5 rfl (lv_at hl 0 rfl) ?_
      refine va_get (D := (dC, dI)) (ci := 11) (v := .ref (ra 2)) (C := RX11) (T := TX11) (N := 61) hx hb hts hin11 hown hK hP 0 rfl rfl 3 (Nat.le_of_ble_eq_true rfl) hw_0 (fun _ h9 => h9) rfl dX11_linksFrom_6 ?_
      refine lv_iconst (v := 5) hx hb dX11_linksFrom_9 ic_5 ?_
      refine va_iald hx hb hK hP 1 1 rfl rfl (vp_in_nI (n := 5) (by decide) (by decide)) dX11_linksFrom_10 ?_
      refine W.eq (g2 := F0 m 11 ls [.int (q_told 5), .int v4_loc3]) rfl ?_
      refine lv_icmp_ge (tgt := 41) hx hb dX11_linksFrom_11 rfl (fun c1 => ?_) (fun c1 => ?_)
      · refine lv_iload_n hx hb dX11_linksFrom_41 rfl (lv_at hl 2 rfl) ?_
        have hP9 := hP
        have hD9 := hD
        exact W.iret (v := v4_loc2) hx hb hr (fun t ht hW => ⟨⟨v4_loc2, (), rfl, ⟨ct_e hlf_4 c1, ct_e hlf_4 c1 ▸ ct_iv (hq_told 5 : iv 0 20 (q_told 5))⟩, by rw [ht]; exact hP9, hD9⟩, hS.F ht⟩) hS.2.2 dX11_linksFrom_42
      · have b2 : iv 0 19 v4_loc3 := iv_ltL (Int32.not_le.mp c1) h4_1 (hq_told 5 : iv 0 20 (q_told 5)) (by decide) (by decide)
        have b3 : iv 1 20 (q_told 5) := iv_ltR (Int32.not_le.mp c1) h4_1 (hq_told 5 : iv 0 20 (q_told 5)) (by decide) (by decide)
        refine lv_iload_n hx hb dX11_linksFrom_14 rfl (lv_at hl 2 rfl) ?_
        refine lv_aload_n hx hb dX11_linksFrom_15 rfl (lv_at hl 0 rfl) ?_
        refine va_get (D := (dC, dI)) (ci := 11) (v := .ref (ra 8)) (C := RX11) (T := TX11) (N := 61) hx hb hts hin11 hown hK hP 0 rfl rfl 9 (Nat.le_of_ble_eq_true rfl) hw_1 (fun _ h9 => h9) rfl dX11_linksFrom_16 ?_
        refine lv_bipush (v := 20) hx hb dX11_linksFrom_19 bp_20 ?_
        refine lv_iload_n hx hb dX11_linksFrom_21 rfl (lv_at hl 3 rfl) ?_
        refine lv_iadd hx hb dX11_linksFrom_22 ?_
        have b4 : iv 20 39 (20 + v4_loc3) := iv_add ivk_20 b2 (by decide) (by decide) (by decide) (by decide)
        refine va_iald hx hb hK hP 2 1 rfl rfl (iv_in b4 (by decide) (by decide)) dX11_linksFrom_23 ?_
        have b5 : iv 0 11 (q_from (20 + v4_loc3).toNatClampNeg) := hq_from _
        refine lv_iload_n hx hb dX11_linksFrom_24 rfl (lv_at hl 1 rfl) ?_
        refine lv_icmp_ne (tgt := 32) hx hb dX11_linksFrom_25 rfl (fun c6 => ?_) (fun c6 => ?_)
        · refine lv_iconst (v := 0) hx hb dX11_linksFrom_32 ic_0 ?_
          refine lv_iadd hx hb dX11_linksFrom_33 ?_
          have b7 : iv (-2147483648) 2147483647 (v4_loc2 + 0) := iv_add (iv_t v4_loc2) ivk_0 (by decide) (by decide) (by decide) (by decide)
          refine lv_istore_n (lv' := [(2, .int (v4_loc2 + 0)), (0, .ref m0), (1, .int p0), (3, .int v4_loc3)]) hx hb dX11_linksFrom_34 rfl hl (Nat.le_of_ble_eq_true rfl) rfl (fun ls hl => ?_)
          refine lv_iinc (v := v4_loc3 + Int32.ofInt 1) (lv' := [(3, .int (v4_loc3 + Int32.ofInt 1)), (2, .int (v4_loc2 + 0)), (0, .ref m0), (1, .int p0)]) hx hb dX11_linksFrom_35 hl (k := 3) rfl (rfl) (Nat.le_of_ble_eq_true rfl) rfl (fun ls hl => ?_)
          have b8 : iv 1 20 (v4_loc3 + Int32.ofInt 1) := iv_add b2 ivo_1 (by decide) (by decide) (by decide) (by decide)
          refine lv_goto (tgt := 4) hx hb dX11_linksFrom_38 rfl ?_
          exact ih4 (v4_loc2 + 0) (v4_loc3 + Int32.ofInt 1) _ _ _ (ms_up (c := 1) (d := 0) b2 hm4 (by decide) (iv_inc 1 b2 (by decide) (by decide) (by decide) (by decide)) (by decide) rfl) ((iv_w b8 (by decide) (by decide))) ((show (v4_loc2 + 0) = nI (cntT (shT 20 q_from) p0 (v4_loc3 + Int32.ofInt 1).toNatClampNeg) ∧ (v4_loc3 + Int32.ofInt 1).toInt ≤ (q_told 5).toInt from ct_n hlf_4 b2 (Int32.not_le.mp c1) c6)) ((show x0 1 = x0 1 from rfl)) ((show x0 10 = x0 10 from rfl)) ((show x0 11 = x0 11 from rfl)) ((show x0 14 = x0 14 from rfl)) (hP) (hD) hS (lv_sub hl [2, 3, 1, 0] rfl)
        · have b9 : iv 0 11 p0 := iv_eqR c6 b5
          refine lv_iconst (v := 1) hx hb dX11_linksFrom_28 ic_1 ?_
          refine lv_goto (tgt := 33) hx hb dX11_linksFrom_29 rfl ?_
          refine lv_iadd hx hb dX11_linksFrom_33 ?_
          refine lv_istore_n (lv' := [(2, .int (v4_loc2 + 1)), (0, .ref m0), (1, .int p0), (3, .int v4_loc3)]) hx hb dX11_linksFrom_34 rfl hl (Nat.le_of_ble_eq_true rfl) rfl (fun ls hl => ?_)
          refine lv_iinc (v := v4_loc3 + Int32.ofInt 1) (lv' := [(3, .int (v4_loc3 + Int32.ofInt 1)), (2, .int (v4_loc2 + 1)), (0, .ref m0), (1, .int p0)]) hx hb dX11_linksFrom_35 hl (k := 3) rfl (rfl) (Nat.le_of_ble_eq_true rfl) rfl (fun ls hl => ?_)
          have b10 : iv 1 20 (v4_loc3 + Int32.ofInt 1) := iv_add b2 ivo_1 (by decide) (by decide) (by decide) (by decide)
          refine lv_goto (tgt := 4) hx hb dX11_linksFrom_38 rfl ?_
          exact ih4 (v4_loc2 + 1) (v4_loc3 + Int32.ofInt 1) _ _ _ (ms_up (c := 1) (d := 0) b2 hm4 (by decide) (iv_inc 1 b2 (by decide) (by decide) (by decide) (by decide)) (by decide) rfl) ((iv_w b10 (by decide) (by decide))) ((show (v4_loc2 + 1) = nI (cntT (shT 20 q_from) p0 (v4_loc3 + Int32.ofInt 1).toNatClampNeg) ∧ (v4_loc3 + Int32.ofInt 1).toInt ≤ (q_told 5).toInt from ct_y hlf_4 b2 (Int32.not_le.mp c1) c6)) ((show x0 1 = x0 1 from rfl)) ((show x0 10 = x0 10 from rfl)) ((show x0 11 = x0 11 from rfl)) ((show x0 14 = x0 14 from rfl)) (hP) (hD) hS (lv_sub hl [2, 3, 1, 0] rfl)
  refine lv_iconst (v := 0) hx hb dX11_linksFrom_0 ic_0 ?_
  refine lv_istore_n (lv' := [(2, .int 0), (0, .ref m0), (1, .int p0)]) hx hb dX11_linksFrom_1 rfl hl (Nat.le_of_ble_eq_true rfl) rfl (fun ls hl => ?_)
  refine lv_iconst (v := 0) hx hb dX11_linksFrom_2 ic_0 ?_
  refine lv_istore_n (lv' := [(3, .int 0), (2, .int 0), (0, .ref m0), (1, .int p0)]) hx hb dX11_linksFrom_3 rfl hl (Nat.le_of_ble_eq_true rfl) rfl (fun ls hl => ?_)
  exact hJ4 _ 0 0 _ _ _ (Nat.lt_succ_self _) ((iv_w ivk_0 (by decide) (by decide))) ((show 0 = nI (cntT (shT 20 q_from) p0 ((0 : Int32)).toNatClampNeg) ∧ ((0 : Int32)).toInt ≤ (q_told 5).toInt from ct_0 (hq_told 5 : iv 0 20 (q_told 5)))) ((show x0 1 = x0 1 from rfl)) ((show x0 10 = x0 10 from rfl)) ((show x0 11 = x0 11 from rfl)) ((show x0 14 = x0 14 from rfl)) (hP) (hD) hS (lv_sub hl [2, 3, 1, 0] rfl)
def rm_s11_hasLink : Room := { frames := 0, cells := 0, slots := 0, locals := 0 }
set_option maxHeartbeats 4000000 in
set_option maxRecDepth 100000 in
theorem s11_hasLink (l : Launch) (dC : Nat → ClassId) (dI : Nat → Nat → Nat) (kB kI kJ kZ kC kS : ClassId) (sz : Nat) (m0 : Nat) (ra : Nat → Nat) (x0 : Nat → Int32) (q_told : Nat → Int32) (q_from : Nat → Int32) (q_to : Nat → Int32) (p0 : Int32) (p1 : Int32) (hX : fI lX11 hX11 x0) (hq_told : fI lTold hTold q_told) (hq_from : fI (fun _ => 0) (fun _ => 11) q_from) (hq_to : fI (fun _ => 0) (fun _ => 11) q_to) : Met l yX11_hasLink wsX11_hasLink rm_s11_hasLink (va_Pc [.ref m0, .int p0, .int p1] (fun U => U.heap.size = sz ∧ va_P (dC, dI) vwCl [(m0, .inr (11, oX11 ra x0)), (ra 2, .inl (kI, 8, .inl q_told)), (ra 8, .inl (kI, 40, .inl q_from)), (ra 9, .inl (kI, 40, .inl q_to))] U.heap ∧ kE dC dI kB kI kJ kZ kC kS U ∧ va_D (fun _ => True) [(m0, .inr (11, oX11 ra x0)), (ra 2, .inl (kI, 8, .inl q_told)), (ra 8, .inl (kI, 40, .inl q_from)), (ra 9, .inl (kI, 40, .inl q_to))])) (va_Qi (fun (r : Int32) (_ : Unit) => iv 0 1 r ∧ ((r = 0 ∧ ¬ hasT (shT 20 q_from) (shT 20 q_to) (q_told 5) p0 p1) ∨ (¬ r = 0 ∧ hasT (shT 20 q_from) (shT 20 q_to) (q_told 5) p0 p1))) (fun _ t => va_P (dC, dI) vwCl [(m0, .inr (11, oX11 ra x0)), (ra 2, .inl (kI, 8, .inl q_told)), (ra 8, .inl (kI, 40, .inl q_from)), (ra 9, .inl (kI, 40, .inl q_to))] t.heap ∧ va_D (va_A [(m0, .inr (11, oX11 ra x0)), (ra 2, .inl (kI, 8, .inl q_told)), (ra 8, .inl (kI, 40, .inl q_from)), (ra 9, .inl (kI, 40, .inl q_to))] sz) [(m0, .inr (11, oX11 ra x0)), (ra 2, .inl (kI, 8, .inl q_told)), (ra 8, .inl (kI, 40, .inl q_from)), (ra 9, .inl (kI, 40, .inl q_to))]) (va_A [(m0, .inr (11, oX11 ra x0)), (ra 2, .inl (kI, 8, .inl q_told)), (ra 8, .inl (kI, 40, .inl q_from)), (ra 9, .inl (kI, 40, .inl q_to))] sz)) 0 0 (va_A [(m0, .inr (11, oX11 ra x0)), (ra 2, .inl (kI, 8, .inl q_told)), (ra 8, .inl (kI, 40, .inl q_from)), (ra 9, .inl (kI, 40, .inl q_to))] sz) := by
  refine Met.ofW (cc := cX11_hasLink) (maxL := 5) (ret := (some .boolean)) (by decide) rfl ?_
  intro p e s m args0 below meth c s₁ B hml hv
  obtain ⟨hargs, hsz, hP, hE, hD0⟩ := hv
  have hx := B.exec
  have hb := B.bytes
  have hr := B.returns
  have hts := atoms_spec (ws := wsX11_hasLink) B.pre
  have hown : s.vm.findClass RX11 = some m.cls := findClass_of_methodNamed B.named
  have hlocks := B.notSynchronized
  have hK := hE.1
  have hin11 : ∀ w ∈ wsX110, w ∈ wsX11_hasLink := fun _ h9 => List.mem_cons_of_mem _ (List.mem_append_right _ h9)
  have hw_0 := hts (.fieldLink RX11 34 "PathProberModel" "told" "[I") (List.mem_of_getElem? (i := 1) rfl)
  have hw_1 := hts (.fieldLink RX11 53 "PathProberModel" "from" "[I") (List.mem_of_getElem? (i := 2) rfl)
  have hw_2 := hts (.fieldLink RX11 56 "PathProberModel" "to" "[I") (List.mem_of_getElem? (i := 3) rfl)
  subst hsz
  have hD := hD0.self (sz := s.heap.size)
  generalize hAe : va_A [(m0, .inr (11, oX11 ra x0)), (ra 2, .inl (kI, 8, .inl q_told)), (ra 8, .inl (kI, 40, .inl q_from)), (ra 9, .inl (kI, 40, .inl q_to))] s.heap.size = A at hD ⊢
  have hA : ∀ q : Nat, s.heap.size ≤ q → A q := fun q h => by rw [← hAe]; exact Or.inr h
  have hS : va_S A s.heap s.heap [] := va_S.rf
  have hP : va_P (dC, dI) vwCl [(m0, .inr (11, oX11 ra x0)), (ra 2, .inl (kI, 8, .inl q_told)), (ra 8, .inl (kI, 40, .inl q_from)), (ra 9, .inl (kI, 40, .inl q_to))] s.heap := hP
  have hl := lv_entry ([.ref m0, .int p0, .int p1]) (n := 5) (Nat.le_of_ble_eq_true rfl)
  have hla : entryFrame m args0 5 = entryFrame m ([.ref m0, .int p0, .int p1] : List Value).toArray 5 := by rw [hargs]
  rw [hla, lg_entry_eq]
  generalize (lg_sl ([.ref m0, .int p0, .int p1]) ++ List.replicate (5 - (lg_sl ([.ref m0, .int p0, .int p1])).length) Slot.unset).toArray = ls at hl ⊢
  have hl : lv_has ls 5 [(0, .ref m0), (1, .int p0), (2, .int p1)] := hl
  have hJ5 : ∀ (n : Nat) (v5_loc3 : Int32) (v5_loc4 : Int32) (H : Heap) (locs : List Loc) (ls : Array Slot), (20 - v5_loc4.toInt).toNat < n → iv 0 1 v5_loc3 → iv 0 20 v5_loc4 → (HlR q_from q_to (q_told 5) p0 p1 v5_loc3 v5_loc4) → (x0 1 = x0 1) → (x0 10 = x0 10) → (x0 11 = x0 11) → (x0 14 = x0 14) → va_P (dC, dI) vwCl [(m0, .inr (11, oX11 ra x0)), (ra 2, .inl (kI, 8, .inl q_told)), (ra 8, .inl (kI, 40, .inl q_from)), (ra 9, .inl (kI, 40, .inl q_to))] H → va_D A [(m0, .inr (11, oX11 ra x0)), (ra 2, .inl (kI, 8, .inl q_told)), (ra 8, .inl (kI, 40, .inl q_from)), (ra 9, .inl (kI, 40, .inl q_to))] → va_S A s.heap H locs → lv_has ls 5 [(0, .ref m0), (1, .int p0), (2, .int p1), (3, .int v5_loc3), (4, .int v5_loc4)] → W p l e (headSpec wsX11_hasLink rm_s11_hasLink).room s m args0 below meth c H locs (0) (0) (MQ below (va_Qi (fun (r : Int32) (_ : Unit) => iv 0 1 r ∧ ((r = 0 ∧ ¬ hasT (shT 20 q_from) (shT 20 q_to) (q_told 5) p0 p1) ∨ (¬ r = 0 ∧ hasT (shT 20 q_from) (shT 20 q_to) (q_told 5) p0 p1))) (fun _ t => va_P (dC, dI) vwCl [(m0, .inr (11, oX11 ra x0)), (ra 2, .inl (kI, 8, .inl q_told)), (ra 8, .inl (kI, 40, .inl q_from)), (ra 9, .inl (kI, 40, .inl q_to))] t.heap ∧ va_D A [(m0, .inr (11, oX11 ra x0)), (ra 2, .inl (kI, 8, .inl q_told)), (ra 8, .inl (kI, 40, .inl q_from)), (ra 9, .inl (kI, 40, .inl q_to))]) A) args0 s 0 0 A) (F0 m 5 ls []) := by
    intro n
    induction n with
    | zero => intro v5_loc3 v5_loc4 H locs ls hm5; exact absurd hm5 (Nat.not_lt_zero _)
    | succ n ih5 =>
      intro v5_loc3 v5_loc4 H locs ls hm5 h5_1 h5_2 hhl_5 htp_5 hfp_5 hor_5 hirl_5 hP hD hS hl
      refine lv_iload hx hb dX11_hasLink_5 (lv_at hl 4 rfl) ?_
      refine lv_aload_n hx hb dX11_hasLink_7 rfl (lv_at hl 0 rfl) ?_
      refine va_get (D := (dC, dI)) (ci := 11) (v := .ref (ra 2)) (C := RX11) (T := TX11) (N := 61) hx hb hts hin11 hown hK hP 0 rfl rfl 3 (Nat.le_of_ble_eq_true rfl) hw_0 (fun _ h9 => h9) rfl dX11_hasLink_8 ?_
      refine lv_iconst (v := 5) hx hb dX11_hasLink_11 ic_5 ?_
      refine va_iald hx hb hK hP 1 1 rfl rfl (vp_in_nI (n := 5) (by decide) (by decide)) dX11_hasLink_12 ?_
      refine W.eq (g2 := F0 m 13 ls [.int (q_told 5), .int v5_loc4]) rfl ?_
      refine lv_icmp_ge (tgt := 60) hx hb dX11_hasLink_13 rfl (fun c1 => ?_) (fun c1 => ?_)
      · refine lv_iload_n hx hb dX11_hasLink_60 rfl (lv_at hl 3 rfl) ?_
        have hP9 := hP
        have hD9 := hD
        exact W.zret (v := v5_loc3) (ty := .boolean) hx hb hr (z_nar h5_1) (fun t ht hW => ⟨⟨v5_loc3, (), rfl, ⟨h5_1, hl_e hhl_5 c1⟩, by rw [ht]; exact hP9, hD9⟩, hS.F ht⟩) hS.2.2 dX11_hasLink_61
      · have b2 : iv 0 19 v5_loc4 := iv_ltL (Int32.not_le.mp c1) h5_2 (hq_told 5 : iv 0 20 (q_told 5)) (by decide) (by decide)
        have b3 : iv 1 20 (q_told 5) := iv_ltR (Int32.not_le.mp c1) h5_2 (hq_told 5 : iv 0 20 (q_told 5)) (by decide) (by decide)
        refine lv_iload_n hx hb dX11_hasLink_16 rfl (lv_at hl 3 rfl) ?_
        refine lv_if_ne (tgt := 48) hx hb dX11_hasLink_17 rfl (fun c4 => ?_) (fun c4 => ?_)
        · have b5 : iv 1 1 v5_loc3 := iv_neLo c4 h5_1 ivk_0 (by decide) (by decide)
          refine lv_iconst (v := 1) hx hb dX11_hasLink_48 ic_1 ?_
          refine lv_goto (tgt := 53) hx hb dX11_hasLink_49 rfl ?_
          refine lv_istore_n (lv' := [(3, .int 1), (0, .ref m0), (1, .int p0), (2, .int p1), (4, .int v5_loc4)]) hx hb dX11_hasLink_53 rfl hl (Nat.le_of_ble_eq_true rfl) rfl (fun ls hl => ?_)
          refine lv_iinc (v := v5_loc4 + Int32.ofInt 1) (lv' := [(4, .int (v5_loc4 + Int32.ofInt 1)), (3, .int 1), (0, .ref m0), (1, .int p0), (2, .int p1)]) hx hb dX11_hasLink_54 hl (k := 4) rfl (rfl) (Nat.le_of_ble_eq_true rfl) rfl (fun ls hl => ?_)
          have b6 : iv 1 20 (v5_loc4 + Int32.ofInt 1) := iv_add b2 ivo_1 (by decide) (by decide) (by decide) (by decide)
          refine lv_goto (tgt := 5) hx hb dX11_hasLink_57 rfl ?_
          exact ih5 1 (v5_loc4 + Int32.ofInt 1) _ _ _ (ms_up (c := 1) (d := 0) b2 hm5 (by decide) (iv_inc 1 b2 (by decide) (by decide) (by decide) (by decide)) (by decide) rfl) ((iv_w ivk_1 (by decide) (by decide))) ((iv_w b6 (by decide) (by decide))) ((show HlR q_from q_to (q_told 5) p0 p1 1 (v5_loc4 + Int32.ofInt 1) from hl_k hhl_5 c4)) ((show x0 1 = x0 1 from rfl)) ((show x0 10 = x0 10 from rfl)) ((show x0 11 = x0 11 from rfl)) ((show x0 14 = x0 14 from rfl)) (hP) (hD) hS (lv_sub hl [2, 3, 4, 1, 0] rfl)
        · have b7 : iv 0 0 v5_loc3 := iv_eqL c4 ivk_0
          refine lv_aload_n hx hb dX11_hasLink_20 rfl (lv_at hl 0 rfl) ?_
          refine va_get (D := (dC, dI)) (ci := 11) (v := .ref (ra 8)) (C := RX11) (T := TX11) (N := 61) hx hb hts hin11 hown hK hP 0 rfl rfl 9 (Nat.le_of_ble_eq_true rfl) hw_1 (fun _ h9 => h9) rfl dX11_hasLink_21 ?_
          refine lv_bipush (v := 20) hx hb dX11_hasLink_24 bp_20 ?_
          refine lv_iload hx hb dX11_hasLink_26 (lv_at hl 4 rfl) ?_
          refine lv_iadd hx hb dX11_hasLink_28 ?_
          have b8 : iv 20 39 (20 + v5_loc4) := iv_add ivk_20 b2 (by decide) (by decide) (by decide) (by decide)
          refine va_iald hx hb hK hP 2 1 rfl rfl (iv_in b8 (by decide) (by decide)) dX11_hasLink_29 ?_
          have b9 : iv 0 11 (q_from (20 + v5_loc4).toNatClampNeg) := hq_from _
          refine lv_iload_n hx hb dX11_hasLink_30 rfl (lv_at hl 1 rfl) ?_
          refine lv_icmp_ne (tgt := 52) hx hb dX11_hasLink_31 rfl (fun c10 => ?_) (fun c10 => ?_)
          · refine lv_iconst (v := 0) hx hb dX11_hasLink_52 ic_0 ?_
            refine lv_istore_n (lv' := [(3, .int 0), (0, .ref m0), (1, .int p0), (2, .int p1), (4, .int v5_loc4)]) hx hb dX11_hasLink_53 rfl hl (Nat.le_of_ble_eq_true rfl) rfl (fun ls hl => ?_)
            refine lv_iinc (v := v5_loc4 + Int32.ofInt 1) (lv' := [(4, .int (v5_loc4 + Int32.ofInt 1)), (3, .int 0), (0, .ref m0), (1, .int p0), (2, .int p1)]) hx hb dX11_hasLink_54 hl (k := 4) rfl (rfl) (Nat.le_of_ble_eq_true rfl) rfl (fun ls hl => ?_)
            have b11 : iv 1 20 (v5_loc4 + Int32.ofInt 1) := iv_add b2 ivo_1 (by decide) (by decide) (by decide) (by decide)
            refine lv_goto (tgt := 5) hx hb dX11_hasLink_57 rfl ?_
            exact ih5 0 (v5_loc4 + Int32.ofInt 1) _ _ _ (ms_up (c := 1) (d := 0) b2 hm5 (by decide) (iv_inc 1 b2 (by decide) (by decide) (by decide) (by decide)) (by decide) rfl) ((iv_w ivk_0 (by decide) (by decide))) ((iv_w b11 (by decide) (by decide))) ((show HlR q_from q_to (q_told 5) p0 p1 0 (v5_loc4 + Int32.ofInt 1) from hl_n hhl_5 c4 b2 (fun w => c10 w.1))) ((show x0 1 = x0 1 from rfl)) ((show x0 10 = x0 10 from rfl)) ((show x0 11 = x0 11 from rfl)) ((show x0 14 = x0 14 from rfl)) (hP) (hD) hS (lv_sub hl [2, 3, 4, 1, 0] rfl)
          · have b12 : iv 0 11 p0 := iv_eqR c10 b9
            refine lv_aload_n hx hb dX11_hasLink_34 rfl (lv_at hl 0 rfl) ?_
            refine va_get (D := (dC, dI)) (ci := 11) (v := .ref (ra 9)) (C := RX11) (T := TX11) (N := 61) hx hb hts hin11 hown hK hP 0 rfl rfl 10 (Nat.le_of_ble_eq_true rfl) hw_2 (fun _ h9 => h9) rfl dX11_hasLink_35 ?_
            refine lv_bipush (v := 20) hx hb dX11_hasLink_38 bp_20 ?_
            refine lv_iload hx hb dX11_hasLink_40 (lv_at hl 4 rfl) ?_
            refine lv_iadd hx hb dX11_hasLink_42 ?_
            have b13 : iv 20 39 (20 + v5_loc4) := iv_add ivk_20 b2 (by decide) (by decide) (by decide) (by decide)
            refine va_iald hx hb hK hP 3 1 rfl rfl (iv_in b13 (by decide) (by decide)) dX11_hasLink_43 ?_
            have b14 : iv 0 11 (q_to (20 + v5_loc4).toNatClampNeg) := hq_to _
            refine lv_iload_n hx hb dX11_hasLink_44 rfl (lv_at hl 2 rfl) ?_
            refine lv_icmp_ne (tgt := 52) hx hb dX11_hasLink_45 rfl (fun c15 => ?_) (fun c15 => ?_)
            · refine lv_iconst (v := 0) hx hb dX11_hasLink_52 ic_0 ?_
              refine lv_istore_n (lv' := [(3, .int 0), (0, .ref m0), (1, .int p0), (2, .int p1), (4, .int v5_loc4)]) hx hb dX11_hasLink_53 rfl hl (Nat.le_of_ble_eq_true rfl) rfl (fun ls hl => ?_)
              refine lv_iinc (v := v5_loc4 + Int32.ofInt 1) (lv' := [(4, .int (v5_loc4 + Int32.ofInt 1)), (3, .int 0), (0, .ref m0), (1, .int p0), (2, .int p1)]) hx hb dX11_hasLink_54 hl (k := 4) rfl (rfl) (Nat.le_of_ble_eq_true rfl) rfl (fun ls hl => ?_)
              have b16 : iv 1 20 (v5_loc4 + Int32.ofInt 1) := iv_add b2 ivo_1 (by decide) (by decide) (by decide) (by decide)
              refine lv_goto (tgt := 5) hx hb dX11_hasLink_57 rfl ?_
              exact ih5 0 (v5_loc4 + Int32.ofInt 1) _ _ _ (ms_up (c := 1) (d := 0) b2 hm5 (by decide) (iv_inc 1 b2 (by decide) (by decide) (by decide) (by decide)) (by decide) rfl) ((iv_w ivk_0 (by decide) (by decide))) ((iv_w b16 (by decide) (by decide))) ((show HlR q_from q_to (q_told 5) p0 p1 0 (v5_loc4 + Int32.ofInt 1) from hl_n hhl_5 c4 b2 (fun w => c15 w.2))) ((show x0 1 = x0 1 from rfl)) ((show x0 10 = x0 10 from rfl)) ((show x0 11 = x0 11 from rfl)) ((show x0 14 = x0 14 from rfl)) (hP) (hD) hS (lv_sub hl [2, 3, 4, 1, 0] rfl)
            · have b17 : iv 0 11 p1 := iv_eqR c15 b14
              refine lv_iconst (v := 1) hx hb dX11_hasLink_48 ic_1 ?_
              refine lv_goto (tgt := 53) hx hb dX11_hasLink_49 rfl ?_
              refine lv_istore_n (lv' := [(3, .int 1), (0, .ref m0), (1, .int p0), (2, .int p1), (4, .int v5_loc4)]) hx hb dX11_hasLink_53 rfl hl (Nat.le_of_ble_eq_true rfl) rfl (fun ls hl => ?_)
              refine lv_iinc (v := v5_loc4 + Int32.ofInt 1) (lv' := [(4, .int (v5_loc4 + Int32.ofInt 1)), (3, .int 1), (0, .ref m0), (1, .int p0), (2, .int p1)]) hx hb dX11_hasLink_54 hl (k := 4) rfl (rfl) (Nat.le_of_ble_eq_true rfl) rfl (fun ls hl => ?_)
              have b18 : iv 1 20 (v5_loc4 + Int32.ofInt 1) := iv_add b2 ivo_1 (by decide) (by decide) (by decide) (by decide)
              refine lv_goto (tgt := 5) hx hb dX11_hasLink_57 rfl ?_
              exact ih5 1 (v5_loc4 + Int32.ofInt 1) _ _ _ (ms_up (c := 1) (d := 0) b2 hm5 (by decide) (iv_inc 1 b2 (by decide) (by decide) (by decide) (by decide)) (by decide) rfl) ((iv_w ivk_1 (by decide) (by decide))) ((iv_w b18 (by decide) (by decide))) ((show HlR q_from q_to (q_told 5) p0 p1 1 (v5_loc4 + Int32.ofInt 1) from hl_y b2 (Int32.not_le.mp c1) c10 c15)) ((show x0 1 = x0 1 from rfl)) ((show x0 10 = x0 10 from rfl)) ((show x0 11 = x0 11 from rfl)) ((show x0 14 = x0 14 from rfl)) (hP) (hD) hS (lv_sub hl [2, 3, 4, 1, 0] rfl)
  refine lv_iconst (v := 0) hx hb dX11_hasLink_0 ic_0 ?_
  refine lv_istore_n (lv' := [(3, .int 0), (0, .ref m0), (1, .int p0), (2, .int p1)]) hx hb dX11_hasLink_1 rfl hl (Nat.le_of_ble_eq_true rfl) rfl (fun ls hl => ?_)
  refine lv_iconst (v := 0) hx hb dX11_hasLink_2 ic_0 ?_
  refine lv_istore (lv' := [(4, .int 0), (3, .int 0), (0, .ref m0), (1, .int p0), (2, .int p1)]) hx hb dX11_hasLink_3 hl (Nat.le_of_ble_eq_true rfl) rfl (fun ls hl => ?_)
  exact hJ5 _ 0 0 _ _ _ (Nat.lt_succ_self _) ((iv_w ivk_0 (by decide) (by decide))) ((iv_w ivk_0 (by decide) (by decide))) ((show HlR q_from q_to (q_told 5) p0 p1 0 0 from hl_0)) ((show x0 1 = x0 1 from rfl)) ((show x0 10 = x0 10 from rfl)) ((show x0 11 = x0 11 from rfl)) ((show x0 14 = x0 14 from rfl)) (hP) (hD) hS (lv_sub hl [2, 3, 4, 1, 0] rfl)
def rm_s11_refuse : Room := { frames := 0, cells := 0, slots := 0, locals := 0 }
set_option maxHeartbeats 4000000 in
set_option maxRecDepth 100000 in
theorem s11_refuse (l : Launch) (dC : Nat → ClassId) (dI : Nat → Nat → Nat) (kB kI kJ kZ kC kS : ClassId) (sz : Nat) (m0 : Nat) (ra : Nat → Nat) (x0 : Nat → Int32) (q_status : Nat → Int32) (p0 : Int32) (hX : fI lX11 hX11 x0) (hp0 : iv 0 2 p0) : Met l yX11_refuse wsX11_refuse rm_s11_refuse (va_Pc [.ref m0, .int p0] (fun U => U.heap.size = sz ∧ va_P (dC, dI) vwCl [(m0, .inr (11, oX11 ra x0)), (ra 12, .inl (kI, 3, .inl q_status))] U.heap ∧ kE dC dI kB kI kJ kZ kC kS U ∧ va_D (fun _ => True) [(m0, .inr (11, oX11 ra x0)), (ra 12, .inl (kI, 3, .inl q_status))])) (va_Qi (fun (r : Int32) (_ : Unit) => iv (-1) (-1) r) (fun _ t => ∃ (q_status' : Nat → Int32), va_P (dC, dI) vwCl [(m0, .inr (11, oX11 ra x0)), (ra 12, .inl (kI, 3, .inl q_status'))] t.heap ∧ va_D (va_A [(m0, .inr (11, oX11 ra x0)), (ra 12, .inl (kI, 3, .inl q_status))] sz) [(m0, .inr (11, oX11 ra x0)), (ra 12, .inl (kI, 3, .inl q_status'))]) (va_A [(m0, .inr (11, oX11 ra x0)), (ra 12, .inl (kI, 3, .inl q_status))] sz)) 0 0 (va_A [(m0, .inr (11, oX11 ra x0)), (ra 12, .inl (kI, 3, .inl q_status))] sz) := by
  refine Met.ofW (cc := cX11_refuse) (maxL := 2) (ret := (some .int)) (by decide) rfl ?_
  intro p e s m args0 below meth c s₁ B hml hv
  obtain ⟨hargs, hsz, hP, hE, hD0⟩ := hv
  have hx := B.exec
  have hb := B.bytes
  have hr := B.returns
  have hts := atoms_spec (ws := wsX11_refuse) B.pre
  have hown : s.vm.findClass RX11 = some m.cls := findClass_of_methodNamed B.named
  have hlocks := B.notSynchronized
  have hK := hE.1
  have hin11 : ∀ w ∈ wsX110, w ∈ wsX11_refuse := fun _ h9 => List.mem_cons_of_mem _ (List.mem_append_right _ h9)
  have hw_0 := hts (.fieldLink RX11 63 "PathProberModel" "status" "[I") (List.mem_of_getElem? (i := 1) rfl)
  subst hsz
  have hD := hD0.self (sz := s.heap.size)
  generalize hAe : va_A [(m0, .inr (11, oX11 ra x0)), (ra 12, .inl (kI, 3, .inl q_status))] s.heap.size = A at hD ⊢
  have hA : ∀ q : Nat, s.heap.size ≤ q → A q := fun q h => by rw [← hAe]; exact Or.inr h
  have hS : va_S A s.heap s.heap [] := va_S.rf
  have hP : va_P (dC, dI) vwCl [(m0, .inr (11, oX11 ra x0)), (ra 12, .inl (kI, 3, .inl q_status))] s.heap := hP
  have hl := lv_entry ([.ref m0, .int p0]) (n := 2) (Nat.le_of_ble_eq_true rfl)
  have hla : entryFrame m args0 2 = entryFrame m ([.ref m0, .int p0] : List Value).toArray 2 := by rw [hargs]
  rw [hla, lg_entry_eq]
  generalize (lg_sl ([.ref m0, .int p0]) ++ List.replicate (2 - (lg_sl ([.ref m0, .int p0])).length) Slot.unset).toArray = ls at hl ⊢
  have hl : lv_has ls 2 [(0, .ref m0), (1, .int p0)] := hl
  refine lv_aload_n hx hb dX11_refuse_0 rfl (lv_at hl 0 rfl) ?_
  refine va_get (D := (dC, dI)) (ci := 11) (v := .ref (ra 12)) (C := RX11) (T := TX11) (N := 61) hx hb hts hin11 hown hK hP 0 rfl rfl 13 (Nat.le_of_ble_eq_true rfl) hw_0 (fun _ h9 => h9) rfl dX11_refuse_1 ?_
  refine lv_iload_n hx hb dX11_refuse_4 rfl (lv_at hl 1 rfl) ?_
  refine lv_dup2_11 hx hb dX11_refuse_5 rfl rfl ?_
  refine va_iald hx hb hK hP 1 1 rfl rfl (iv_in hp0 (by decide) (by decide)) dX11_refuse_6 ?_
  refine lv_topi (fun z1 _ => ?_)
  refine lv_iconst (v := 1) hx hb dX11_refuse_7 ic_1 ?_
  refine lv_iadd hx hb dX11_refuse_8 ?_
  refine lv_topi (fun z2 _ => ?_)
  refine va_iast hx hb hK hP hD hS 1 1 rfl rfl (iv_in hp0 (by decide) (by decide)) dX11_refuse_9 (fun H locs hPa hDa hS => ?_)
  clear hP hD
  have hP : va_P (dC, dI) vwCl [(m0, .inr (11, oX11 ra x0)), (ra 12, .inl (kI, 3, .inl (upd q_status p0.toNatClampNeg z2)))] H := hPa
  have hD : va_D A [(m0, .inr (11, oX11 ra x0)), (ra 12, .inl (kI, 3, .inl (upd q_status p0.toNatClampNeg z2)))] := hDa
  clear hPa hDa
  generalize (upd q_status p0.toNatClampNeg z2) = f3 at hP hD
  refine lv_iconst (v := (-1)) hx hb dX11_refuse_10 ic_m1 ?_
  have hP9 := hP
  have hD9 := hD
  exact W.iret (v := (-1)) hx hb hr (fun t ht hW => ⟨⟨(-1), (), rfl, ivk_m1, f3, by rw [ht]; exact hP9, hD9⟩, hS.F ht⟩) hS.2.2 dX11_refuse_11
def rm_s11_isBranch : Room := { frames := 0, cells := 0, slots := 0, locals := 0 }
set_option maxHeartbeats 4000000 in
set_option maxRecDepth 100000 in
theorem s11_isBranch (l : Launch) (dC : Nat → ClassId) (dI : Nat → Nat → Nat) (kB kI kJ kZ kC kS : ClassId) (sz : Nat) (m0 : Nat) (ra : Nat → Nat) (x0 : Nat → Int32) (q_from : Nat → Int32) (q_to : Nat → Int32) (q_reach : Nat → Int32) (p0 : Int32) (p1 : Int32) (p2 : Int32) (hX : fI lX11 hX11 x0) (hq_from : fI (fun _ => 0) (fun _ => 11) q_from) (hq_to : fI (fun _ => 0) (fun _ => 11) q_to) (hp0 : iv 0 39 p0) (hp2 : iv 0 11 p2) : Met l yX11_isBranch wsX11_isBranch rm_s11_isBranch (va_Pc [.ref m0, .int p0, .int p1, .int p2] (fun U => U.heap.size = sz ∧ va_P (dC, dI) vwCl [(m0, .inr (11, oX11 ra x0)), (ra 8, .inl (kI, 40, .inl q_from)), (ra 9, .inl (kI, 40, .inl q_to)), (ra 14, .inl (kI, 12, .inl q_reach))] U.heap ∧ kE dC dI kB kI kJ kZ kC kS U ∧ va_D (fun _ => True) [(m0, .inr (11, oX11 ra x0)), (ra 8, .inl (kI, 40, .inl q_from)), (ra 9, .inl (kI, 40, .inl q_to)), (ra 14, .inl (kI, 12, .inl q_reach))])) (va_Qi (fun (r : Int32) (_ : Unit) => iv 0 1 r ∧ (r = 0 ∨ q_from p0.toNatClampNeg = p1)) (fun _ t => va_P (dC, dI) vwCl [(m0, .inr (11, oX11 ra x0)), (ra 8, .inl (kI, 40, .inl q_from)), (ra 9, .inl (kI, 40, .inl q_to)), (ra 14, .inl (kI, 12, .inl q_reach))] t.heap ∧ va_D (va_A [(m0, .inr (11, oX11 ra x0)), (ra 8, .inl (kI, 40, .inl q_from)), (ra 9, .inl (kI, 40, .inl q_to)), (ra 14, .inl (kI, 12, .inl q_reach))] sz) [(m0, .inr (11, oX11 ra x0)), (ra 8, .inl (kI, 40, .inl q_from)), (ra 9, .inl (kI, 40, .inl q_to)), (ra 14, .inl (kI, 12, .inl q_reach))]) (va_A [(m0, .inr (11, oX11 ra x0)), (ra 8, .inl (kI, 40, .inl q_from)), (ra 9, .inl (kI, 40, .inl q_to)), (ra 14, .inl (kI, 12, .inl q_reach))] sz)) 0 0 (va_A [(m0, .inr (11, oX11 ra x0)), (ra 8, .inl (kI, 40, .inl q_from)), (ra 9, .inl (kI, 40, .inl q_to)), (ra 14, .inl (kI, 12, .inl q_reach))] sz) := by
  refine Met.ofW (cc := cX11_isBranch) (maxL := 4) (ret := (some .boolean)) (by decide) rfl ?_
  intro p e s m args0 below meth c s₁ B hml hv
  obtain ⟨hargs, hsz, hP, hE, hD0⟩ := hv
  have hx := B.exec
  have hb := B.bytes
  have hr := B.returns
  have hts := atoms_spec (ws := wsX11_isBranch) B.pre
  have hown : s.vm.findClass RX11 = some m.cls := findClass_of_methodNamed B.named
  have hlocks := B.notSynchronized
  have hK := hE.1
  have hin11 : ∀ w ∈ wsX110, w ∈ wsX11_isBranch := fun _ h9 => List.mem_cons_of_mem _ (List.mem_append_right _ h9)
  have hw_0 := hts (.fieldLink RX11 53 "PathProberModel" "from" "[I") (List.mem_of_getElem? (i := 1) rfl)
  have hw_1 := hts (.fieldLink RX11 73 "PathProberModel" "reach" "[I") (List.mem_of_getElem? (i := 2) rfl)
  have hw_2 := hts (.fieldLink RX11 56 "PathProberModel" "to" "[I") (List.mem_of_getElem? (i := 3) rfl)
  subst hsz
  have hD := hD0.self (sz := s.heap.size)
  generalize hAe : va_A [(m0, .inr (11, oX11 ra x0)), (ra 8, .inl (kI, 40, .inl q_from)), (ra 9, .inl (kI, 40, .inl q_to)), (ra 14, .inl (kI, 12, .inl q_reach))] s.heap.size = A at hD ⊢
  have hA : ∀ q : Nat, s.heap.size ≤ q → A q := fun q h => by rw [← hAe]; exact Or.inr h
  have hS : va_S A s.heap s.heap [] := va_S.rf
  have hP : va_P (dC, dI) vwCl [(m0, .inr (11, oX11 ra x0)), (ra 8, .inl (kI, 40, .inl q_from)), (ra 9, .inl (kI, 40, .inl q_to)), (ra 14, .inl (kI, 12, .inl q_reach))] s.heap := hP
  have hl := lv_entry ([.ref m0, .int p0, .int p1, .int p2]) (n := 4) (Nat.le_of_ble_eq_true rfl)
  have hla : entryFrame m args0 4 = entryFrame m ([.ref m0, .int p0, .int p1, .int p2] : List Value).toArray 4 := by rw [hargs]
  rw [hla, lg_entry_eq]
  generalize (lg_sl ([.ref m0, .int p0, .int p1, .int p2]) ++ List.replicate (4 - (lg_sl ([.ref m0, .int p0, .int p1, .int p2])).length) Slot.unset).toArray = ls at hl ⊢
  have hl : lv_has ls 4 [(0, .ref m0), (1, .int p0), (2, .int p1), (3, .int p2)] := hl
  have hJ33 : ∀ (H : Heap) (locs : List Loc) (ls : Array Slot), iv 0 11 (q_from p0.toNatClampNeg) → (x0 1 = x0 1) → (x0 10 = x0 10) → (x0 11 = x0 11) → (x0 14 = x0 14) → va_P (dC, dI) vwCl [(m0, .inr (11, oX11 ra x0)), (ra 8, .inl (kI, 40, .inl q_from)), (ra 9, .inl (kI, 40, .inl q_to)), (ra 14, .inl (kI, 12, .inl q_reach))] H → va_D A [(m0, .inr (11, oX11 ra x0)), (ra 8, .inl (kI, 40, .inl q_from)), (ra 9, .inl (kI, 40, .inl q_to)), (ra 14, .inl (kI, 12, .inl q_reach))] → va_S A s.heap H locs → lv_has ls 4 [(0, .ref m0), (1, .int p0), (2, .int p1), (3, .int p2)] → W p l e (headSpec wsX11_isBranch rm_s11_isBranch).room s m args0 below meth c H locs (0) (0) (MQ below (va_Qi (fun (r : Int32) (_ : Unit) => iv 0 1 r ∧ (r = 0 ∨ q_from p0.toNatClampNeg = p1)) (fun _ t => va_P (dC, dI) vwCl [(m0, .inr (11, oX11 ra x0)), (ra 8, .inl (kI, 40, .inl q_from)), (ra 9, .inl (kI, 40, .inl q_to)), (ra 14, .inl (kI, 12, .inl q_reach))] t.heap ∧ va_D A [(m0, .inr (11, oX11 ra x0)), (ra 8, .inl (kI, 40, .inl q_from)), (ra 9, .inl (kI, 40, .inl q_to)), (ra 14, .inl (kI, 12, .inl q_reach))]) A) args0 s 0 0 A) (F0 m 33 ls []) := by
    intro H locs ls h33_1 htp_33 hfp_33 hor_33 hirl_33 hP hD hS hl
    refine lv_iconst (v := 0) hx hb dX11_isBranch_33 ic_0 ?_
    have hP9 := hP
    have hD9 := hD
    exact W.zret (v := 0) (ty := .boolean) hx hb hr rfl (fun t ht hW => ⟨⟨0, (), rfl, ⟨(iv_w ivk_0 (by decide) (by decide)), Or.inl rfl⟩, by rw [ht]; exact hP9, hD9⟩, hS.F ht⟩) hS.2.2 dX11_isBranch_34
  refine lv_aload_n hx hb dX11_isBranch_0 rfl (lv_at hl 0 rfl) ?_
  refine va_get (D := (dC, dI)) (ci := 11) (v := .ref (ra 8)) (C := RX11) (T := TX11) (N := 61) hx hb hts hin11 hown hK hP 0 rfl rfl 9 (Nat.le_of_ble_eq_true rfl) hw_0 (fun _ h9 => h9) rfl dX11_isBranch_1 ?_
  refine lv_iload_n hx hb dX11_isBranch_4 rfl (lv_at hl 1 rfl) ?_
  refine va_iald hx hb hK hP 1 1 rfl rfl (iv_in hp0 (by decide) (by decide)) dX11_isBranch_5 ?_
  have b1 : iv 0 11 (q_from p0.toNatClampNeg) := hq_from _
  refine lv_iload_n hx hb dX11_isBranch_6 rfl (lv_at hl 2 rfl) ?_
  refine lv_icmp_ne (tgt := 33) hx hb dX11_isBranch_7 rfl (fun c2 => ?_) (fun c2 => ?_)
  · exact hJ33 _ _ _ (b1) ((show x0 1 = x0 1 from rfl)) ((show x0 10 = x0 10 from rfl)) ((show x0 11 = x0 11 from rfl)) ((show x0 14 = x0 14 from rfl)) (hP) (hD) hS (lv_sub hl [0, 1, 2, 3] rfl)
  · have b3 : iv 0 11 p1 := iv_eqR c2 b1
    refine lv_aload_n hx hb dX11_isBranch_10 rfl (lv_at hl 0 rfl) ?_
    refine va_get (D := (dC, dI)) (ci := 11) (v := .ref (ra 14)) (C := RX11) (T := TX11) (N := 61) hx hb hts hin11 hown hK hP 0 rfl rfl 25 (Nat.le_of_ble_eq_true rfl) hw_1 (fun _ h9 => h9) rfl dX11_isBranch_11 ?_
    refine lv_iload_n hx hb dX11_isBranch_14 rfl (lv_at hl 3 rfl) ?_
    refine va_iald hx hb hK hP 3 1 rfl rfl (iv_in hp2 (by decide) (by decide)) dX11_isBranch_15 ?_
    refine lv_topi (fun z4 _ => ?_)
    refine lv_aload_n hx hb dX11_isBranch_16 rfl (lv_at hl 0 rfl) ?_
    refine va_get (D := (dC, dI)) (ci := 11) (v := .ref (ra 9)) (C := RX11) (T := TX11) (N := 61) hx hb hts hin11 hown hK hP 0 rfl rfl 10 (Nat.le_of_ble_eq_true rfl) hw_2 (fun _ h9 => h9) rfl dX11_isBranch_17 ?_
    refine lv_iload_n hx hb dX11_isBranch_20 rfl (lv_at hl 1 rfl) ?_
    refine va_iald hx hb hK hP 2 1 rfl rfl (iv_in hp0 (by decide) (by decide)) dX11_isBranch_21 ?_
    refine iv_top (a := 0) (b := 11) (hq_to _) (fun z5 b6 => ?_)
    refine lv_ishr hx hb dX11_isBranch_22 ?_
    refine lv_topi (fun z7 _ => ?_)
    refine lv_iconst (v := 1) hx hb dX11_isBranch_23 ic_1 ?_
    refine lv_iand hx hb dX11_isBranch_24 ?_
    refine iv_top (a := 0) (b := 1) (iv_and (m := 1) (by decide) (by decide) (by decide)) (fun z8 b9 => ?_)
    refine lv_iconst (v := 1) hx hb dX11_isBranch_25 ic_1 ?_
    refine lv_icmp_ne (tgt := 33) hx hb dX11_isBranch_26 rfl (fun c10 => ?_) (fun c10 => ?_)
    · have b11 : iv 0 0 z8 := iv_neHi c10 b9 ivk_1 (by decide) (by decide)
      exact hJ33 _ _ _ (b1) ((show x0 1 = x0 1 from rfl)) ((show x0 10 = x0 10 from rfl)) ((show x0 11 = x0 11 from rfl)) ((show x0 14 = x0 14 from rfl)) (hP) (hD) hS (lv_sub hl [0, 1, 2, 3] rfl)
    · have b12 : iv 1 1 z8 := iv_eqL c10 ivk_1
      refine lv_iconst (v := 1) hx hb dX11_isBranch_29 ic_1 ?_
      refine lv_goto (tgt := 34) hx hb dX11_isBranch_30 rfl ?_
      have hP9 := hP
      have hD9 := hD
      exact W.zret (v := 1) (ty := .boolean) hx hb hr rfl (fun t ht hW => ⟨⟨1, (), rfl, ⟨(iv_w ivk_1 (by decide) (by decide)), Or.inr c2⟩, by rw [ht]; exact hP9, hD9⟩, hS.F ht⟩) hS.2.2 dX11_isBranch_34
def rm_s11_branches : Room := { frames := 1, cells := 0, slots := 0, locals := 23 }
set_option maxHeartbeats 4000000 in
set_option maxRecDepth 100000 in
theorem s11_branches (l : Launch) (dC : Nat → ClassId) (dI : Nat → Nat → Nat) (kB kI kJ kZ kC kS : ClassId) (sz : Nat) (m0 : Nat) (ra : Nat → Nat) (x0 : Nat → Int32) (q_told : Nat → Int32) (q_from : Nat → Int32) (q_to : Nat → Int32) (q_reach : Nat → Int32) (p0 : Int32) (p1 : Int32) (hX : fI lX11 hX11 x0) (hq_told : fI lTold hTold q_told) (hq_from : fI (fun _ => 0) (fun _ => 11) q_from) (hq_to : fI (fun _ => 0) (fun _ => 11) q_to) (hp1 : iv 0 11 p1) : Met l yX11_branches wsX11_branches rm_s11_branches (va_Pc [.ref m0, .int p0, .int p1] (fun U => U.heap.size = sz ∧ va_P (dC, dI) vwCl [(m0, .inr (11, oX11 ra x0)), (ra 2, .inl (kI, 8, .inl q_told)), (ra 8, .inl (kI, 40, .inl q_from)), (ra 9, .inl (kI, 40, .inl q_to)), (ra 14, .inl (kI, 12, .inl q_reach))] U.heap ∧ kE dC dI kB kI kJ kZ kC kS U ∧ va_D (fun _ => True) [(m0, .inr (11, oX11 ra x0)), (ra 2, .inl (kI, 8, .inl q_told)), (ra 8, .inl (kI, 40, .inl q_from)), (ra 9, .inl (kI, 40, .inl q_to)), (ra 14, .inl (kI, 12, .inl q_reach))])) (va_Qi (fun (r : Int32) (_ : Unit) => True) (fun _ t => va_P (dC, dI) vwCl [(m0, .inr (11, oX11 ra x0)), (ra 2, .inl (kI, 8, .inl q_told)), (ra 8, .inl (kI, 40, .inl q_from)), (ra 9, .inl (kI, 40, .inl q_to)), (ra 14, .inl (kI, 12, .inl q_reach))] t.heap ∧ va_D (va_A [(m0, .inr (11, oX11 ra x0)), (ra 2, .inl (kI, 8, .inl q_told)), (ra 8, .inl (kI, 40, .inl q_from)), (ra 9, .inl (kI, 40, .inl q_to)), (ra 14, .inl (kI, 12, .inl q_reach))] sz) [(m0, .inr (11, oX11 ra x0)), (ra 2, .inl (kI, 8, .inl q_told)), (ra 8, .inl (kI, 40, .inl q_from)), (ra 9, .inl (kI, 40, .inl q_to)), (ra 14, .inl (kI, 12, .inl q_reach))]) (va_A [(m0, .inr (11, oX11 ra x0)), (ra 2, .inl (kI, 8, .inl q_told)), (ra 8, .inl (kI, 40, .inl q_from)), (ra 9, .inl (kI, 40, .inl q_to)), (ra 14, .inl (kI, 12, .inl q_reach))] sz)) 0 0 (va_A [(m0, .inr (11, oX11 ra x0)), (ra 2, .inl (kI, 8, .inl q_told)), (ra 8, .inl (kI, 40, .inl q_from)), (ra 9, .inl (kI, 40, .inl q_to)), (ra 14, .inl (kI, 12, .inl q_reach))] sz) := by
  refine Met.ofW (cc := cX11_branches) (maxL := 5) (ret := (some .int)) (by decide) rfl ?_
  intro p e s m args0 below meth c s₁ B hml hv
  obtain ⟨hargs, hsz, hP, hE, hD0⟩ := hv
  have hx := B.exec
  have hb := B.bytes
  have hr := B.returns
  have hts := atoms_spec (ws := wsX11_branches) B.pre
  have hown : s.vm.findClass RX11 = some m.cls := findClass_of_methodNamed B.named
  have hlocks := B.notSynchronized
  have hK := hE.1
  have hin11 : ∀ w ∈ wsX110, w ∈ wsX11_branches := fun _ h9 => List.mem_cons_of_mem _ (List.mem_append_right _ h9)
  subst hsz
  have hD := hD0.self (sz := s.heap.size)
  generalize hAe : va_A [(m0, .inr (11, oX11 ra x0)), (ra 2, .inl (kI, 8, .inl q_told)), (ra 8, .inl (kI, 40, .inl q_from)), (ra 9, .inl (kI, 40, .inl q_to)), (ra 14, .inl (kI, 12, .inl q_reach))] s.heap.size = A at hD ⊢
  have hA : ∀ q : Nat, s.heap.size ≤ q → A q := fun q h => by rw [← hAe]; exact Or.inr h
  have hS : va_S A s.heap s.heap [] := va_S.rf
  have hP : va_P (dC, dI) vwCl [(m0, .inr (11, oX11 ra x0)), (ra 2, .inl (kI, 8, .inl q_told)), (ra 8, .inl (kI, 40, .inl q_from)), (ra 9, .inl (kI, 40, .inl q_to)), (ra 14, .inl (kI, 12, .inl q_reach))] s.heap := hP
  have hl := lv_entry ([.ref m0, .int p0, .int p1]) (n := 5) (Nat.le_of_ble_eq_true rfl)
  have hla : entryFrame m args0 5 = entryFrame m ([.ref m0, .int p0, .int p1] : List Value).toArray 5 := by rw [hargs]
  rw [hla, lg_entry_eq]
  generalize (lg_sl ([.ref m0, .int p0, .int p1]) ++ List.replicate (5 - (lg_sl ([.ref m0, .int p0, .int p1])).length) Slot.unset).toArray = ls at hl ⊢
  have hl : lv_has ls 5 [(0, .ref m0), (1, .int p0), (2, .int p1)] := hl
  have hJ5 : ∀ (n : Nat) (v5_loc3 : Int32) (v5_loc4 : Int32) (H : Heap) (locs : List Loc) (ls : Array Slot), (20 - v5_loc4.toInt).toNat < n → iv 0 20 v5_loc4 → (x0 1 = x0 1) → (x0 10 = x0 10) → (x0 11 = x0 11) → (x0 14 = x0 14) → va_P (dC, dI) vwCl [(m0, .inr (11, oX11 ra x0)), (ra 2, .inl (kI, 8, .inl q_told)), (ra 8, .inl (kI, 40, .inl q_from)), (ra 9, .inl (kI, 40, .inl q_to)), (ra 14, .inl (kI, 12, .inl q_reach))] H → va_D A [(m0, .inr (11, oX11 ra x0)), (ra 2, .inl (kI, 8, .inl q_told)), (ra 8, .inl (kI, 40, .inl q_from)), (ra 9, .inl (kI, 40, .inl q_to)), (ra 14, .inl (kI, 12, .inl q_reach))] → va_S A s.heap H locs → lv_has ls 5 [(0, .ref m0), (1, .int p0), (2, .int p1), (3, .int v5_loc3), (4, .int v5_loc4)] → W p l e (headSpec wsX11_branches rm_s11_branches).room s m args0 below meth c H locs (0) (0) (MQ below (va_Qi (fun (r : Int32) (_ : Unit) => True) (fun _ t => va_P (dC, dI) vwCl [(m0, .inr (11, oX11 ra x0)), (ra 2, .inl (kI, 8, .inl q_told)), (ra 8, .inl (kI, 40, .inl q_from)), (ra 9, .inl (kI, 40, .inl q_to)), (ra 14, .inl (kI, 12, .inl q_reach))] t.heap ∧ va_D A [(m0, .inr (11, oX11 ra x0)), (ra 2, .inl (kI, 8, .inl q_told)), (ra 8, .inl (kI, 40, .inl q_from)), (ra 9, .inl (kI, 40, .inl q_to)), (ra 14, .inl (kI, 12, .inl q_reach))]) A) args0 s 0 0 A) (F0 m 5 ls []) := by
    intro n
    induction n with
    | zero => intro v5_loc3 v5_loc4 H locs ls hm5; exact absurd hm5 (Nat.not_lt_zero _)
    | succ n ih5 =>
      intro v5_loc3 v5_loc4 H locs ls hm5 h5_1 htp_5 hfp_5 hor_5 hirl_5 hP hD hS hl
      have hJ31 : ∀ (v31_stk0 : Int32) (H : Heap) (locs : List Loc) (ls : Array Slot), iv 0 19 v5_loc4 → iv 0 1 v31_stk0 → iv 1 20 (q_told 1) → (x0 1 = x0 1) → (x0 10 = x0 10) → (x0 11 = x0 11) → (x0 14 = x0 14) → va_P (dC, dI) vwCl [(m0, .inr (11, oX11 ra x0)), (ra 2, .inl (kI, 8, .inl q_told)), (ra 8, .inl (kI, 40, .inl q_from)), (ra 9, .inl (kI, 40, .inl q_to)), (ra 14, .inl (kI, 12, .inl q_reach))] H → va_D A [(m0, .inr (11, oX11 ra x0)), (ra 2, .inl (kI, 8, .inl q_told)), (ra 8, .inl (kI, 40, .inl q_from)), (ra 9, .inl (kI, 40, .inl q_to)), (ra 14, .inl (kI, 12, .inl q_reach))] → va_S A s.heap H locs → lv_has ls 5 [(0, .ref m0), (1, .int p0), (2, .int p1), (3, .int v5_loc3), (4, .int v5_loc4)] → W p l e (headSpec wsX11_branches rm_s11_branches).room s m args0 below meth c H locs (0) (0) (MQ below (va_Qi (fun (r : Int32) (_ : Unit) => True) (fun _ t => va_P (dC, dI) vwCl [(m0, .inr (11, oX11 ra x0)), (ra 2, .inl (kI, 8, .inl q_told)), (ra 8, .inl (kI, 40, .inl q_from)), (ra 9, .inl (kI, 40, .inl q_to)), (ra 14, .inl (kI, 12, .inl q_reach))] t.heap ∧ va_D A [(m0, .inr (11, oX11 ra x0)), (ra 2, .inl (kI, 8, .inl q_told)), (ra 8, .inl (kI, 40, .inl q_from)), (ra 9, .inl (kI, 40, .inl q_to)), (ra 14, .inl (kI, 12, .inl q_reach))]) A) args0 s 0 0 A) (F0 m 31 ls [.int v31_stk0, .int v5_loc3]) := by
        intro v31_stk0 H locs ls h31_1 h31_2 h31_3 htp_31 hfp_31 hor_31 hirl_31 hP hD hS hl
        refine lv_iadd hx hb dX11_branches_31 ?_
        refine lv_topi (fun z1 _ => ?_)
        refine lv_istore_n (lv' := [(3, .int z1), (0, .ref m0), (1, .int p0), (2, .int p1), (4, .int v5_loc4)]) hx hb dX11_branches_32 rfl hl (Nat.le_of_ble_eq_true rfl) rfl (fun ls hl => ?_)
        refine lv_iinc (v := v5_loc4 + Int32.ofInt 1) (lv' := [(4, .int (v5_loc4 + Int32.ofInt 1)), (3, .int z1), (0, .ref m0), (1, .int p0), (2, .int p1)]) hx hb dX11_branches_33 hl (k := 4) rfl (rfl) (Nat.le_of_ble_eq_true rfl) rfl (fun ls hl => ?_)
        have b2 : iv 1 20 (v5_loc4 + Int32.ofInt 1) := iv_add h31_1 ivo_1 (by decide) (by decide) (by decide) (by decide)
        refine lv_goto (tgt := 5) hx hb dX11_branches_36 rfl ?_
        exact ih5 z1 (v5_loc4 + Int32.ofInt 1) _ _ _ (ms_up (c := 1) (d := 0) h31_1 hm5 (by decide) (iv_inc 1 h31_1 (by decide) (by decide) (by decide) (by decide)) (by decide) rfl) ((iv_w b2 (by decide) (by decide))) ((show x0 1 = x0 1 from rfl)) ((show x0 10 = x0 10 from rfl)) ((show x0 11 = x0 11 from rfl)) ((show x0 14 = x0 14 from rfl)) (hP) (hD) hS (lv_sub hl [2, 3, 4, 1, 0] rfl)
      refine lv_iload hx hb dX11_branches_5 (lv_at hl 4 rfl) ?_
      refine lv_aload_n hx hb dX11_branches_7 rfl (lv_at hl 0 rfl) ?_
      obtain ⟨hPc, hDc, hFc, hJn⟩ := cl_a (wc := [(m0, .inr (11, oX11 ra x0)), (ra 2, .inl (kI, 8, .inl q_told))]) (wr := [(ra 8, .inl (kI, 40, .inl q_from)), (ra 9, .inl (kI, 40, .inl q_to)), (ra 14, .inl (kI, 12, .inl q_reach))]) hP hD hS hA [0, 1] [2, 3, 4] rfl rfl (by decide +kernel)
      refine va_calli (va_runV (As := []) (rest := [.int v5_loc4]) ⟨hx, hb, hml, hown, hts⟩ (s11_links l dC dI kB kI kJ kZ kC kS H.size m0 ra x0 q_told (hX) (hq_told)) (cwV 0 hts gX11_branches_X11_links rfl rfl rfl (by decide +kernel) ⟨Nat.le_of_ble_eq_true rfl, Nat.le_of_ble_eq_true rfl⟩) ⟨fun a U g mk q => by obtain ⟨q0, q1, qP, qE, qD⟩ := q; exact ⟨q0, q1, qP, kE_call qE, qD⟩, va_recv hK hP (ci := 11) (q0 := 0) rfl rfl, fun U hU hW => ⟨rfl, by rw [hU], by rw [hU]; exact hPc, kE_warm hW hE, hDc.weaken (fun _ _ _ _ => trivial)⟩⟩ rfl rfl hl.1 rfl (lv_room (Nat.le_of_ble_eq_true rfl)) dX11_branches_8 ⟨Nat.le_of_ble_eq_true rfl, Nat.le_of_ble_eq_true rfl⟩) hS (fun q _ h => hFc q h) hFc (fun r3 u t H locs ht hvm w4 hB hz1 hk1 hS => ?_)
      obtain ⟨hP1, hD1⟩ := hB
      try dsimp only at w4
      obtain ⟨hPa, hDa⟩ := hJn (w1 := [(m0, .inr (11, oX11 ra x0)), (ra 2, .inl (kI, 8, .inl q_told))]) hk1 ht hP1 hD1
      clear hP hD hPc hDc hFc hJn hP1 hD1 hk1
      have hP : va_P (dC, dI) vwCl [(ra 8, .inl (kI, 40, .inl q_from)), (ra 9, .inl (kI, 40, .inl q_to)), (ra 14, .inl (kI, 12, .inl q_reach)), (m0, .inr (11, oX11 ra x0)), (ra 2, .inl (kI, 8, .inl q_told))] H := hPa
      have hD : va_D A [(ra 8, .inl (kI, 40, .inl q_from)), (ra 9, .inl (kI, 40, .inl q_to)), (ra 14, .inl (kI, 12, .inl q_reach)), (m0, .inr (11, oX11 ra x0)), (ra 2, .inl (kI, 8, .inl q_told))] := hDa
      clear hPa hDa
      refine W.widen (k := 0) (n := 0) (Nat.le_of_ble_eq_true rfl) (Nat.le_of_ble_eq_true rfl) ?_
      subst w4
      refine lv_icmp_ge (tgt := 39) hx hb dX11_branches_11 rfl (fun c5 => ?_) (fun c5 => ?_)
      · refine lv_iload_n hx hb dX11_branches_39 rfl (lv_at hl 3 rfl) ?_
        have hPD9 := cl_s (wc := [(m0, .inr (11, oX11 ra x0)), (ra 2, .inl (kI, 8, .inl q_told)), (ra 8, .inl (kI, 40, .inl q_from)), (ra 9, .inl (kI, 40, .inl q_to)), (ra 14, .inl (kI, 12, .inl q_reach))]) hP hD [3, 4, 0, 1, 2] rfl (by decide +kernel)
        have hP9 := hPD9.1
        have hD9 := hPD9.2
        exact W.iret (v := v5_loc3) hx hb hr (fun t ht hW => ⟨⟨v5_loc3, (), rfl, trivial, by rw [ht]; exact hP9, hD9⟩, hS.F ht⟩) hS.2.2 dX11_branches_40
      · have b6 : iv 0 19 v5_loc4 := iv_ltL (Int32.not_le.mp c5) h5_1 (hq_told 1 : iv 0 20 (q_told 1)) (by decide) (by decide)
        have b7 : iv 1 20 (q_told 1) := iv_ltR (Int32.not_le.mp c5) h5_1 (hq_told 1 : iv 0 20 (q_told 1)) (by decide) (by decide)
        refine lv_iload_n hx hb dX11_branches_14 rfl (lv_at hl 3 rfl) ?_
        refine lv_aload_n hx hb dX11_branches_15 rfl (lv_at hl 0 rfl) ?_
        refine lv_iload hx hb dX11_branches_16 (lv_at hl 4 rfl) ?_
        refine lv_iload_n hx hb dX11_branches_18 rfl (lv_at hl 1 rfl) ?_
        refine lv_iload_n hx hb dX11_branches_19 rfl (lv_at hl 2 rfl) ?_
        obtain ⟨hPc, hDc, hFc, hJn⟩ := cl_a (wc := [(m0, .inr (11, oX11 ra x0)), (ra 8, .inl (kI, 40, .inl q_from)), (ra 9, .inl (kI, 40, .inl q_to)), (ra 14, .inl (kI, 12, .inl q_reach))]) (wr := [(ra 2, .inl (kI, 8, .inl q_told))]) hP hD hS hA [3, 0, 1, 2] [4] rfl rfl (by decide +kernel)
        refine va_calli (va_runV (As := [.int v5_loc4, .int p0, .int p1]) (rest := [.int v5_loc3]) ⟨hx, hb, hml, hown, hts⟩ (s11_isBranch l dC dI kB kI kJ kZ kC kS H.size m0 ra x0 q_from q_to q_reach v5_loc4 p0 p1 (hX) (hq_from) (hq_to) ((iv_w b6 (by decide) (by decide))) (hp1)) (cwV 3 hts gX11_branches_X11_isBranch rfl rfl rfl (by decide +kernel) ⟨Nat.le_of_ble_eq_true rfl, Nat.le_of_ble_eq_true rfl⟩) ⟨fun a U g mk q => by obtain ⟨q0, q1, qP, qE, qD⟩ := q; exact ⟨q0, q1, qP, kE_call qE, qD⟩, va_recv hK hP (ci := 11) (q0 := 3) rfl rfl, fun U hU hW => ⟨rfl, by rw [hU], by rw [hU]; exact hPc, kE_warm hW hE, hDc.weaken (fun _ _ _ _ => trivial)⟩⟩ rfl rfl hl.1 rfl (lv_room (Nat.le_of_ble_eq_true rfl)) dX11_branches_20 ⟨Nat.le_of_ble_eq_true rfl, Nat.le_of_ble_eq_true rfl⟩) hS (fun q _ h => hFc q h) hFc (fun r8 u t H locs ht hvm w9 hB hz1 hk1 hS => ?_)
        obtain ⟨hP1, hD1⟩ := hB
        try dsimp only at w9
        obtain ⟨hPa, hDa⟩ := hJn (w1 := [(m0, .inr (11, oX11 ra x0)), (ra 8, .inl (kI, 40, .inl q_from)), (ra 9, .inl (kI, 40, .inl q_to)), (ra 14, .inl (kI, 12, .inl q_reach))]) hk1 ht hP1 hD1
        clear hP hD hPc hDc hFc hJn hP1 hD1 hk1
        have hP : va_P (dC, dI) vwCl [(ra 2, .inl (kI, 8, .inl q_told)), (m0, .inr (11, oX11 ra x0)), (ra 8, .inl (kI, 40, .inl q_from)), (ra 9, .inl (kI, 40, .inl q_to)), (ra 14, .inl (kI, 12, .inl q_reach))] H := hPa
        have hD : va_D A [(ra 2, .inl (kI, 8, .inl q_told)), (m0, .inr (11, oX11 ra x0)), (ra 8, .inl (kI, 40, .inl q_from)), (ra 9, .inl (kI, 40, .inl q_to)), (ra 14, .inl (kI, 12, .inl q_reach))] := hDa
        clear hPa hDa
        refine W.widen (k := 0) (n := 0) (Nat.le_of_ble_eq_true rfl) (Nat.le_of_ble_eq_true rfl) ?_
        refine lv_if_eq (tgt := 30) hx hb dX11_branches_23 rfl (fun c10 => ?_) (fun c10 => ?_)
        · have b11 : iv 0 0 r8 := iv_eqL c10 ivk_0
          refine lv_iconst (v := 0) hx hb dX11_branches_30 ic_0 ?_
          have hPD9 := cl_s (wc := [(m0, .inr (11, oX11 ra x0)), (ra 2, .inl (kI, 8, .inl q_told)), (ra 8, .inl (kI, 40, .inl q_from)), (ra 9, .inl (kI, 40, .inl q_to)), (ra 14, .inl (kI, 12, .inl q_reach))]) hP hD [1, 0, 2, 3, 4] rfl (by decide +kernel)
          exact hJ31 0 _ _ _ (b6) ((iv_w ivk_0 (by decide) (by decide))) (b7) ((show x0 1 = x0 1 from rfl)) ((show x0 10 = x0 10 from rfl)) ((show x0 11 = x0 11 from rfl)) ((show x0 14 = x0 14 from rfl)) (hPD9.1) (hPD9.2) hS (lv_sub hl [0, 1, 2, 3, 4] rfl)
        · have b12 : iv 1 1 r8 := iv_neLo c10 w9.1 ivk_0 (by decide) (by decide)
          have hr13 : q_from v5_loc4.toNatClampNeg = p0 := (w9.2).resolve_left (iv_ne b12 ivk_0 (by decide))
          refine lv_iconst (v := 1) hx hb dX11_branches_26 ic_1 ?_
          refine lv_goto (tgt := 31) hx hb dX11_branches_27 rfl ?_
          have hPD9 := cl_s (wc := [(m0, .inr (11, oX11 ra x0)), (ra 2, .inl (kI, 8, .inl q_told)), (ra 8, .inl (kI, 40, .inl q_from)), (ra 9, .inl (kI, 40, .inl q_to)), (ra 14, .inl (kI, 12, .inl q_reach))]) hP hD [1, 0, 2, 3, 4] rfl (by decide +kernel)
          exact hJ31 1 _ _ _ (b6) ((iv_w ivk_1 (by decide) (by decide))) (b7) ((show x0 1 = x0 1 from rfl)) ((show x0 10 = x0 10 from rfl)) ((show x0 11 = x0 11 from rfl)) ((show x0 14 = x0 14 from rfl)) (hPD9.1) (hPD9.2) hS (lv_sub hl [0, 1, 2, 3, 4] rfl)
  refine lv_iconst (v := 0) hx hb dX11_branches_0 ic_0 ?_
  refine lv_istore_n (lv' := [(3, .int 0), (0, .ref m0), (1, .int p0), (2, .int p1)]) hx hb dX11_branches_1 rfl hl (Nat.le_of_ble_eq_true rfl) rfl (fun ls hl => ?_)
  refine lv_iconst (v := 0) hx hb dX11_branches_2 ic_0 ?_
  refine lv_istore (lv' := [(4, .int 0), (3, .int 0), (0, .ref m0), (1, .int p0), (2, .int p1)]) hx hb dX11_branches_3 hl (Nat.le_of_ble_eq_true rfl) rfl (fun ls hl => ?_)
  exact hJ5 _ 0 0 _ _ _ (Nat.lt_succ_self _) ((iv_w ivk_0 (by decide) (by decide))) ((show x0 1 = x0 1 from rfl)) ((show x0 10 = x0 10 from rfl)) ((show x0 11 = x0 11 from rfl)) ((show x0 14 = x0 14 from rfl)) (hP) (hD) hS (lv_sub hl [2, 3, 4, 1, 0] rfl)
def rm_s11_branchAt : Room := { frames := 1, cells := 0, slots := 0, locals := 23 }
set_option maxHeartbeats 4000000 in
set_option maxRecDepth 100000 in
theorem s11_branchAt (l : Launch) (dC : Nat → ClassId) (dI : Nat → Nat → Nat) (kB kI kJ kZ kC kS : ClassId) (sz : Nat) (m0 : Nat) (ra : Nat → Nat) (x0 : Nat → Int32) (q_told : Nat → Int32) (q_from : Nat → Int32) (q_to : Nat → Int32) (q_reach : Nat → Int32) (p0 : Int32) (p1 : Int32) (p2 : Int32) (hX : fI lX11 hX11 x0) (hq_told : fI lTold hTold q_told) (hq_from : fI (fun _ => 0) (fun _ => 11) q_from) (hq_to : fI (fun _ => 0) (fun _ => 11) q_to) (hp1 : iv 0 11 p1) : Met l yX11_branchAt wsX11_branchAt rm_s11_branchAt (va_Pc [.ref m0, .int p0, .int p1, .int p2] (fun U => U.heap.size = sz ∧ va_P (dC, dI) vwCl [(m0, .inr (11, oX11 ra x0)), (ra 2, .inl (kI, 8, .inl q_told)), (ra 8, .inl (kI, 40, .inl q_from)), (ra 9, .inl (kI, 40, .inl q_to)), (ra 14, .inl (kI, 12, .inl q_reach))] U.heap ∧ kE dC dI kB kI kJ kZ kC kS U ∧ va_D (fun _ => True) [(m0, .inr (11, oX11 ra x0)), (ra 2, .inl (kI, 8, .inl q_told)), (ra 8, .inl (kI, 40, .inl q_from)), (ra 9, .inl (kI, 40, .inl q_to)), (ra 14, .inl (kI, 12, .inl q_reach))])) (va_Qi (fun (r : Int32) (_ : Unit) => iv (-1) 19 r ∧ (r = -1 ∨ (q_from r.toNatClampNeg = p0 ∧ r.toInt < (q_told 1).toInt))) (fun _ t => va_P (dC, dI) vwCl [(m0, .inr (11, oX11 ra x0)), (ra 2, .inl (kI, 8, .inl q_told)), (ra 8, .inl (kI, 40, .inl q_from)), (ra 9, .inl (kI, 40, .inl q_to)), (ra 14, .inl (kI, 12, .inl q_reach))] t.heap ∧ va_D (va_A [(m0, .inr (11, oX11 ra x0)), (ra 2, .inl (kI, 8, .inl q_told)), (ra 8, .inl (kI, 40, .inl q_from)), (ra 9, .inl (kI, 40, .inl q_to)), (ra 14, .inl (kI, 12, .inl q_reach))] sz) [(m0, .inr (11, oX11 ra x0)), (ra 2, .inl (kI, 8, .inl q_told)), (ra 8, .inl (kI, 40, .inl q_from)), (ra 9, .inl (kI, 40, .inl q_to)), (ra 14, .inl (kI, 12, .inl q_reach))]) (va_A [(m0, .inr (11, oX11 ra x0)), (ra 2, .inl (kI, 8, .inl q_told)), (ra 8, .inl (kI, 40, .inl q_from)), (ra 9, .inl (kI, 40, .inl q_to)), (ra 14, .inl (kI, 12, .inl q_reach))] sz)) 0 0 (va_A [(m0, .inr (11, oX11 ra x0)), (ra 2, .inl (kI, 8, .inl q_told)), (ra 8, .inl (kI, 40, .inl q_from)), (ra 9, .inl (kI, 40, .inl q_to)), (ra 14, .inl (kI, 12, .inl q_reach))] sz) := by
  refine Met.ofW (cc := cX11_branchAt) (maxL := 6) (ret := (some .int)) (by decide) rfl ?_
  intro p e s m args0 below meth c s₁ B hml hv
  obtain ⟨hargs, hsz, hP, hE, hD0⟩ := hv
  have hx := B.exec
  have hb := B.bytes
  have hr := B.returns
  have hts := atoms_spec (ws := wsX11_branchAt) B.pre
  have hown : s.vm.findClass RX11 = some m.cls := findClass_of_methodNamed B.named
  have hlocks := B.notSynchronized
  have hK := hE.1
  have hin11 : ∀ w ∈ wsX110, w ∈ wsX11_branchAt := fun _ h9 => List.mem_cons_of_mem _ (List.mem_append_right _ h9)
  subst hsz
  have hD := hD0.self (sz := s.heap.size)
  generalize hAe : va_A [(m0, .inr (11, oX11 ra x0)), (ra 2, .inl (kI, 8, .inl q_told)), (ra 8, .inl (kI, 40, .inl q_from)), (ra 9, .inl (kI, 40, .inl q_to)), (ra 14, .inl (kI, 12, .inl q_reach))] s.heap.size = A at hD ⊢
  have hA : ∀ q : Nat, s.heap.size ≤ q → A q := fun q h => by rw [← hAe]; exact Or.inr h
  have hS : va_S A s.heap s.heap [] := va_S.rf
  have hP : va_P (dC, dI) vwCl [(m0, .inr (11, oX11 ra x0)), (ra 2, .inl (kI, 8, .inl q_told)), (ra 8, .inl (kI, 40, .inl q_from)), (ra 9, .inl (kI, 40, .inl q_to)), (ra 14, .inl (kI, 12, .inl q_reach))] s.heap := hP
  have hl := lv_entry ([.ref m0, .int p0, .int p1, .int p2]) (n := 6) (Nat.le_of_ble_eq_true rfl)
  have hla : entryFrame m args0 6 = entryFrame m ([.ref m0, .int p0, .int p1, .int p2] : List Value).toArray 6 := by rw [hargs]
  rw [hla, lg_entry_eq]
  generalize (lg_sl ([.ref m0, .int p0, .int p1, .int p2]) ++ List.replicate (6 - (lg_sl ([.ref m0, .int p0, .int p1, .int p2])).length) Slot.unset).toArray = ls at hl ⊢
  have hl : lv_has ls 6 [(0, .ref m0), (1, .int p0), (2, .int p1), (3, .int p2)] := hl
  have hJ6 : ∀ (n : Nat) (v6_loc4 : Int32) (v6_loc5 : Int32) (H : Heap) (locs : List Loc) (ls : Array Slot), (20 - v6_loc5.toInt).toNat < n → iv 0 20 v6_loc5 → (x0 1 = x0 1) → (x0 10 = x0 10) → (x0 11 = x0 11) → (x0 14 = x0 14) → va_P (dC, dI) vwCl [(m0, .inr (11, oX11 ra x0)), (ra 2, .inl (kI, 8, .inl q_told)), (ra 8, .inl (kI, 40, .inl q_from)), (ra 9, .inl (kI, 40, .inl q_to)), (ra 14, .inl (kI, 12, .inl q_reach))] H → va_D A [(m0, .inr (11, oX11 ra x0)), (ra 2, .inl (kI, 8, .inl q_told)), (ra 8, .inl (kI, 40, .inl q_from)), (ra 9, .inl (kI, 40, .inl q_to)), (ra 14, .inl (kI, 12, .inl q_reach))] → va_S A s.heap H locs → lv_has ls 6 [(0, .ref m0), (1, .int p0), (2, .int p1), (3, .int p2), (4, .int v6_loc4), (5, .int v6_loc5)] → W p l e (headSpec wsX11_branchAt rm_s11_branchAt).room s m args0 below meth c H locs (0) (0) (MQ below (va_Qi (fun (r : Int32) (_ : Unit) => iv (-1) 19 r ∧ (r = -1 ∨ (q_from r.toNatClampNeg = p0 ∧ r.toInt < (q_told 1).toInt))) (fun _ t => va_P (dC, dI) vwCl [(m0, .inr (11, oX11 ra x0)), (ra 2, .inl (kI, 8, .inl q_told)), (ra 8, .inl (kI, 40, .inl q_from)), (ra 9, .inl (kI, 40, .inl q_to)), (ra 14, .inl (kI, 12, .inl q_reach))] t.heap ∧ va_D A [(m0, .inr (11, oX11 ra x0)), (ra 2, .inl (kI, 8, .inl q_told)), (ra 8, .inl (kI, 40, .inl q_from)), (ra 9, .inl (kI, 40, .inl q_to)), (ra 14, .inl (kI, 12, .inl q_reach))]) A) args0 s 0 0 A) (F0 m 6 ls []) := by
    intro n
    induction n with
    | zero => intro v6_loc4 v6_loc5 H locs ls hm6; exact absurd hm6 (Nat.not_lt_zero _)
    | succ n ih6 =>
      intro v6_loc4 v6_loc5 H locs ls hm6 h6_1 htp_6 hfp_6 hor_6 hirl_6 hP hD hS hl
      have hJ40 : ∀ (v40_loc4 : Int32) (H : Heap) (locs : List Loc) (ls : Array Slot), iv 0 19 v6_loc5 → iv 1 20 (q_told 1) → (x0 1 = x0 1) → (x0 10 = x0 10) → (x0 11 = x0 11) → (x0 14 = x0 14) → va_P (dC, dI) vwCl [(m0, .inr (11, oX11 ra x0)), (ra 2, .inl (kI, 8, .inl q_told)), (ra 8, .inl (kI, 40, .inl q_from)), (ra 9, .inl (kI, 40, .inl q_to)), (ra 14, .inl (kI, 12, .inl q_reach))] H → va_D A [(m0, .inr (11, oX11 ra x0)), (ra 2, .inl (kI, 8, .inl q_told)), (ra 8, .inl (kI, 40, .inl q_from)), (ra 9, .inl (kI, 40, .inl q_to)), (ra 14, .inl (kI, 12, .inl q_reach))] → va_S A s.heap H locs → lv_has ls 6 [(0, .ref m0), (1, .int p0), (2, .int p1), (3, .int p2), (4, .int v40_loc4), (5, .int v6_loc5)] → W p l e (headSpec wsX11_branchAt rm_s11_branchAt).room s m args0 below meth c H locs (0) (0) (MQ below (va_Qi (fun (r : Int32) (_ : Unit) => iv (-1) 19 r ∧ (r = -1 ∨ (q_from r.toNatClampNeg = p0 ∧ r.toInt < (q_told 1).toInt))) (fun _ t => va_P (dC, dI) vwCl [(m0, .inr (11, oX11 ra x0)), (ra 2, .inl (kI, 8, .inl q_told)), (ra 8, .inl (kI, 40, .inl q_from)), (ra 9, .inl (kI, 40, .inl q_to)), (ra 14, .inl (kI, 12, .inl q_reach))] t.heap ∧ va_D A [(m0, .inr (11, oX11 ra x0)), (ra 2, .inl (kI, 8, .inl q_told)), (ra 8, .inl (kI, 40, .inl q_from)), (ra 9, .inl (kI, 40, .inl q_to)), (ra 14, .inl (kI, 12, .inl q_reach))]) A) args0 s 0 0 A) (F0 m 40 ls []) := by
        intro v40_loc4 H locs ls h40_1 h40_2 htp_40 hfp_40 hor_40 hirl_40 hP hD hS hl
        refine lv_iinc (v := v6_loc5 + Int32.ofInt 1) (lv' := [(5, .int (v6_loc5 + Int32.ofInt 1)), (0, .ref m0), (1, .int p0), (2, .int p1), (3, .int p2), (4, .int v40_loc4)]) hx hb dX11_branchAt_40 hl (k := 5) rfl (rfl) (Nat.le_of_ble_eq_true rfl) rfl (fun ls hl => ?_)
        have b1 : iv 1 20 (v6_loc5 + Int32.ofInt 1) := iv_add h40_1 ivo_1 (by decide) (by decide) (by decide) (by decide)
        refine lv_goto (tgt := 6) hx hb dX11_branchAt_43 rfl ?_
        exact ih6 v40_loc4 (v6_loc5 + Int32.ofInt 1) _ _ _ (ms_up (c := 1) (d := 0) h40_1 hm6 (by decide) (iv_inc 1 h40_1 (by decide) (by decide) (by decide) (by decide)) (by decide) rfl) ((iv_w b1 (by decide) (by decide))) ((show x0 1 = x0 1 from rfl)) ((show x0 10 = x0 10 from rfl)) ((show x0 11 = x0 11 from rfl)) ((show x0 14 = x0 14 from rfl)) (hP) (hD) hS (lv_sub hl [1, 2, 3, 4, 5, 0] rfl)
      refine lv_iload hx hb dX11_branchAt_6 (lv_at hl 5 rfl) ?_
      refine lv_aload_n hx hb dX11_branchAt_8 rfl (lv_at hl 0 rfl) ?_
      obtain ⟨hPc, hDc, hFc, hJn⟩ := cl_a (wc := [(m0, .inr (11, oX11 ra x0)), (ra 2, .inl (kI, 8, .inl q_told))]) (wr := [(ra 8, .inl (kI, 40, .inl q_from)), (ra 9, .inl (kI, 40, .inl q_to)), (ra 14, .inl (kI, 12, .inl q_reach))]) hP hD hS hA [0, 1] [2, 3, 4] rfl rfl (by decide +kernel)
      refine va_calli (va_runV (As := []) (rest := [.int v6_loc5]) ⟨hx, hb, hml, hown, hts⟩ (s11_links l dC dI kB kI kJ kZ kC kS H.size m0 ra x0 q_told (hX) (hq_told)) (cwV 0 hts gX11_branchAt_X11_links rfl rfl rfl (by decide +kernel) ⟨Nat.le_of_ble_eq_true rfl, Nat.le_of_ble_eq_true rfl⟩) ⟨fun a U g mk q => by obtain ⟨q0, q1, qP, qE, qD⟩ := q; exact ⟨q0, q1, qP, kE_call qE, qD⟩, va_recv hK hP (ci := 11) (q0 := 0) rfl rfl, fun U hU hW => ⟨rfl, by rw [hU], by rw [hU]; exact hPc, kE_warm hW hE, hDc.weaken (fun _ _ _ _ => trivial)⟩⟩ rfl rfl hl.1 rfl (lv_room (Nat.le_of_ble_eq_true rfl)) dX11_branchAt_9 ⟨Nat.le_of_ble_eq_true rfl, Nat.le_of_ble_eq_true rfl⟩) hS (fun q _ h => hFc q h) hFc (fun r2 u t H locs ht hvm w3 hB hz1 hk1 hS => ?_)
      obtain ⟨hP1, hD1⟩ := hB
      try dsimp only at w3
      obtain ⟨hPa, hDa⟩ := hJn (w1 := [(m0, .inr (11, oX11 ra x0)), (ra 2, .inl (kI, 8, .inl q_told))]) hk1 ht hP1 hD1
      clear hP hD hPc hDc hFc hJn hP1 hD1 hk1
      have hP : va_P (dC, dI) vwCl [(ra 8, .inl (kI, 40, .inl q_from)), (ra 9, .inl (kI, 40, .inl q_to)), (ra 14, .inl (kI, 12, .inl q_reach)), (m0, .inr (11, oX11 ra x0)), (ra 2, .inl (kI, 8, .inl q_told))] H := hPa
      have hD : va_D A [(ra 8, .inl (kI, 40, .inl q_from)), (ra 9, .inl (kI, 40, .inl q_to)), (ra 14, .inl (kI, 12, .inl q_reach)), (m0, .inr (11, oX11 ra x0)), (ra 2, .inl (kI, 8, .inl q_told))] := hDa
      clear hPa hDa
      refine W.widen (k := 0) (n := 0) (Nat.le_of_ble_eq_true rfl) (Nat.le_of_ble_eq_true rfl) ?_
      subst w3
      refine lv_icmp_ge (tgt := 46) hx hb dX11_branchAt_12 rfl (fun c4 => ?_) (fun c4 => ?_)
      · refine lv_iconst (v := (-1)) hx hb dX11_branchAt_46 ic_m1 ?_
        have hPD9 := cl_s (wc := [(m0, .inr (11, oX11 ra x0)), (ra 2, .inl (kI, 8, .inl q_told)), (ra 8, .inl (kI, 40, .inl q_from)), (ra 9, .inl (kI, 40, .inl q_to)), (ra 14, .inl (kI, 12, .inl q_reach))]) hP hD [3, 4, 0, 1, 2] rfl (by decide +kernel)
        have hP9 := hPD9.1
        have hD9 := hPD9.2
        exact W.iret (v := (-1)) hx hb hr (fun t ht hW => ⟨⟨(-1), (), rfl, ⟨(iv_w ivk_m1 (by decide) (by decide)), Or.inl rfl⟩, by rw [ht]; exact hP9, hD9⟩, hS.F ht⟩) hS.2.2 dX11_branchAt_47
      · have b5 : iv 0 19 v6_loc5 := iv_ltL (Int32.not_le.mp c4) h6_1 (hq_told 1 : iv 0 20 (q_told 1)) (by decide) (by decide)
        have b6 : iv 1 20 (q_told 1) := iv_ltR (Int32.not_le.mp c4) h6_1 (hq_told 1 : iv 0 20 (q_told 1)) (by decide) (by decide)
        refine lv_aload_n hx hb dX11_branchAt_15 rfl (lv_at hl 0 rfl) ?_
        refine lv_iload hx hb dX11_branchAt_16 (lv_at hl 5 rfl) ?_
        refine lv_iload_n hx hb dX11_branchAt_18 rfl (lv_at hl 1 rfl) ?_
        refine lv_iload_n hx hb dX11_branchAt_19 rfl (lv_at hl 2 rfl) ?_
        obtain ⟨hPc, hDc, hFc, hJn⟩ := cl_a (wc := [(m0, .inr (11, oX11 ra x0)), (ra 8, .inl (kI, 40, .inl q_from)), (ra 9, .inl (kI, 40, .inl q_to)), (ra 14, .inl (kI, 12, .inl q_reach))]) (wr := [(ra 2, .inl (kI, 8, .inl q_told))]) hP hD hS hA [3, 0, 1, 2] [4] rfl rfl (by decide +kernel)
        refine va_calli (va_runV (As := [.int v6_loc5, .int p0, .int p1]) (rest := []) ⟨hx, hb, hml, hown, hts⟩ (s11_isBranch l dC dI kB kI kJ kZ kC kS H.size m0 ra x0 q_from q_to q_reach v6_loc5 p0 p1 (hX) (hq_from) (hq_to) ((iv_w b5 (by decide) (by decide))) (hp1)) (cwV 3 hts gX11_branchAt_X11_isBranch rfl rfl rfl (by decide +kernel) ⟨Nat.le_of_ble_eq_true rfl, Nat.le_of_ble_eq_true rfl⟩) ⟨fun a U g mk q => by obtain ⟨q0, q1, qP, qE, qD⟩ := q; exact ⟨q0, q1, qP, kE_call qE, qD⟩, va_recv hK hP (ci := 11) (q0 := 3) rfl rfl, fun U hU hW => ⟨rfl, by rw [hU], by rw [hU]; exact hPc, kE_warm hW hE, hDc.weaken (fun _ _ _ _ => trivial)⟩⟩ rfl rfl hl.1 rfl (lv_room (Nat.le_of_ble_eq_true rfl)) dX11_branchAt_20 ⟨Nat.le_of_ble_eq_true rfl, Nat.le_of_ble_eq_true rfl⟩) hS (fun q _ h => hFc q h) hFc (fun r7 u t H locs ht hvm w8 hB hz1 hk1 hS => ?_)
        obtain ⟨hP1, hD1⟩ := hB
        try dsimp only at w8
        obtain ⟨hPa, hDa⟩ := hJn (w1 := [(m0, .inr (11, oX11 ra x0)), (ra 8, .inl (kI, 40, .inl q_from)), (ra 9, .inl (kI, 40, .inl q_to)), (ra 14, .inl (kI, 12, .inl q_reach))]) hk1 ht hP1 hD1
        clear hP hD hPc hDc hFc hJn hP1 hD1 hk1
        have hP : va_P (dC, dI) vwCl [(ra 2, .inl (kI, 8, .inl q_told)), (m0, .inr (11, oX11 ra x0)), (ra 8, .inl (kI, 40, .inl q_from)), (ra 9, .inl (kI, 40, .inl q_to)), (ra 14, .inl (kI, 12, .inl q_reach))] H := hPa
        have hD : va_D A [(ra 2, .inl (kI, 8, .inl q_told)), (m0, .inr (11, oX11 ra x0)), (ra 8, .inl (kI, 40, .inl q_from)), (ra 9, .inl (kI, 40, .inl q_to)), (ra 14, .inl (kI, 12, .inl q_reach))] := hDa
        clear hPa hDa
        refine W.widen (k := 0) (n := 0) (Nat.le_of_ble_eq_true rfl) (Nat.le_of_ble_eq_true rfl) ?_
        refine lv_if_ne (tgt := 29) hx hb dX11_branchAt_23 rfl (fun c9 => ?_) (fun c9 => ?_)
        · have b10 : iv 1 1 r7 := iv_neLo c9 w8.1 ivk_0 (by decide) (by decide)
          have hr11 : q_from v6_loc5.toNatClampNeg = p0 := (w8.2).resolve_left (iv_ne b10 ivk_0 (by decide))
          refine lv_iload hx hb dX11_branchAt_29 (lv_at hl 4 rfl) ?_
          refine lv_if_ne (tgt := 37) hx hb dX11_branchAt_31 rfl (fun c12 => ?_) (fun c12 => ?_)
          · refine lv_iinc (v := v6_loc4 + Int32.ofInt (-1)) (lv' := [(4, .int (v6_loc4 + Int32.ofInt (-1))), (0, .ref m0), (1, .int p0), (2, .int p1), (3, .int p2), (5, .int v6_loc5)]) hx hb dX11_branchAt_37 hl (k := 4) rfl (rfl) (Nat.le_of_ble_eq_true rfl) rfl (fun ls hl => ?_)
            have hPD9 := cl_s (wc := [(m0, .inr (11, oX11 ra x0)), (ra 2, .inl (kI, 8, .inl q_told)), (ra 8, .inl (kI, 40, .inl q_from)), (ra 9, .inl (kI, 40, .inl q_to)), (ra 14, .inl (kI, 12, .inl q_reach))]) hP hD [1, 0, 2, 3, 4] rfl (by decide +kernel)
            exact hJ40 (v6_loc4 + Int32.ofInt (-1)) _ _ _ (b5) (b6) ((show x0 1 = x0 1 from rfl)) ((show x0 10 = x0 10 from rfl)) ((show x0 11 = x0 11 from rfl)) ((show x0 14 = x0 14 from rfl)) (hPD9.1) (hPD9.2) hS (lv_sub hl [1, 2, 3, 4, 0, 5] rfl)
          · have b13 : iv 0 0 v6_loc4 := iv_eqL c12 ivk_0
            refine lv_iload hx hb dX11_branchAt_34 (lv_at hl 5 rfl) ?_
            have hPD9 := cl_s (wc := [(m0, .inr (11, oX11 ra x0)), (ra 2, .inl (kI, 8, .inl q_told)), (ra 8, .inl (kI, 40, .inl q_from)), (ra 9, .inl (kI, 40, .inl q_to)), (ra 14, .inl (kI, 12, .inl q_reach))]) hP hD [1, 0, 2, 3, 4] rfl (by decide +kernel)
            have hP9 := hPD9.1
            have hD9 := hPD9.2
            exact W.iret (v := v6_loc5) hx hb hr (fun t ht hW => ⟨⟨v6_loc5, (), rfl, ⟨(iv_w b5 (by decide) (by decide)), Or.inr ⟨hr11, Int32.lt_iff_toInt_lt.mp (Int32.not_le.mp c4)⟩⟩, by rw [ht]; exact hP9, hD9⟩, hS.F ht⟩) hS.2.2 dX11_branchAt_36
        · have b14 : iv 0 0 r7 := iv_eqL c9 ivk_0
          refine lv_goto (tgt := 40) hx hb dX11_branchAt_26 rfl ?_
          have hPD9 := cl_s (wc := [(m0, .inr (11, oX11 ra x0)), (ra 2, .inl (kI, 8, .inl q_told)), (ra 8, .inl (kI, 40, .inl q_from)), (ra 9, .inl (kI, 40, .inl q_to)), (ra 14, .inl (kI, 12, .inl q_reach))]) hP hD [1, 0, 2, 3, 4] rfl (by decide +kernel)
          exact hJ40 v6_loc4 _ _ _ (b5) (b6) ((show x0 1 = x0 1 from rfl)) ((show x0 10 = x0 10 from rfl)) ((show x0 11 = x0 11 from rfl)) ((show x0 14 = x0 14 from rfl)) (hPD9.1) (hPD9.2) hS (lv_sub hl [0, 1, 2, 3, 4, 5] rfl)
  refine lv_iload_n hx hb dX11_branchAt_0 rfl (lv_at hl 3 rfl) ?_
  refine lv_istore (lv' := [(4, .int p2), (0, .ref m0), (1, .int p0), (2, .int p1), (3, .int p2)]) hx hb dX11_branchAt_1 hl (Nat.le_of_ble_eq_true rfl) rfl (fun ls hl => ?_)
  refine lv_iconst (v := 0) hx hb dX11_branchAt_3 ic_0 ?_
  refine lv_istore (lv' := [(5, .int 0), (4, .int p2), (0, .ref m0), (1, .int p0), (2, .int p1), (3, .int p2)]) hx hb dX11_branchAt_4 hl (Nat.le_of_ble_eq_true rfl) rfl (fun ls hl => ?_)
  exact hJ6 _ p2 0 _ _ _ (Nat.lt_succ_self _) ((iv_w ivk_0 (by decide) (by decide))) ((show x0 1 = x0 1 from rfl)) ((show x0 10 = x0 10 from rfl)) ((show x0 11 = x0 11 from rfl)) ((show x0 14 = x0 14 from rfl)) (hP) (hD) hS (lv_sub hl [2, 3, 4, 5, 1, 0] rfl)
def rm_s11_goesBy : Room := { frames := 2, cells := 0, slots := 0, locals := 48 }
set_option maxHeartbeats 4000000 in
set_option maxRecDepth 100000 in
theorem s11_goesBy (l : Launch) (dC : Nat → ClassId) (dI : Nat → Nat → Nat) (kB kI kJ kZ kC kS : ClassId) (sz : Nat) (m0 : Nat) (ra : Nat → Nat) (x0 : Nat → Int32) (q_told : Nat → Int32) (q_kind : Nat → Int32) (q_salt : Nat → Int32) (q_from : Nat → Int32) (q_to : Nat → Int32) (q_goal : Nat → Int32) (q_now : Nat → Int32) (q_reach : Nat → Int32) (p0 : Int32) (p1 : Int32) (p2 : Int32) (hX : fI lX11 hX11 x0) (hq_told : fI lTold hTold q_told) (hq_salt : fI (fun _ => 0) (fun _ => 15) q_salt) (hq_from : fI (fun _ => 0) (fun _ => 11) q_from) (hq_to : fI (fun _ => 0) (fun _ => 11) q_to) (hq_goal : fI (fun _ => 0) (fun _ => 11) q_goal) (hq_now : fI lNow hNow q_now) (hp0 : iv 0 11 p0) (hp1 : iv 0 31 p1) (hp2 : iv 0 2 p2) : Met l yX11_goesBy wsX11_goesBy rm_s11_goesBy (va_Pc [.ref m0, .int p0, .int p1, .int p2] (fun U => U.heap.size = sz ∧ va_P (dC, dI) vwCl [(m0, .inr (11, oX11 ra x0)), (ra 2, .inl (kI, 8, .inl q_told)), (ra 3, .inl (kI, 24, .inl q_kind)), (ra 4, .inl (kI, 24, .inl q_salt)), (ra 8, .inl (kI, 40, .inl q_from)), (ra 9, .inl (kI, 40, .inl q_to)), (ra 10, .inl (kI, 6, .inl q_goal)), (ra 11, .inl (kI, 1019, .inl q_now)), (ra 14, .inl (kI, 12, .inl q_reach))] U.heap ∧ kE dC dI kB kI kJ kZ kC kS U ∧ va_D (fun _ => True) [(m0, .inr (11, oX11 ra x0)), (ra 2, .inl (kI, 8, .inl q_told)), (ra 3, .inl (kI, 24, .inl q_kind)), (ra 4, .inl (kI, 24, .inl q_salt)), (ra 8, .inl (kI, 40, .inl q_from)), (ra 9, .inl (kI, 40, .inl q_to)), (ra 10, .inl (kI, 6, .inl q_goal)), (ra 11, .inl (kI, 1019, .inl q_now)), (ra 14, .inl (kI, 12, .inl q_reach))])) (va_Qi (fun (r : Int32) (_ : Unit) => iv (-1) 19 r ∧ (r = -1 ∨ (q_from r.toNatClampNeg = p0 ∧ r.toInt < (q_told 1).toInt))) (fun _ t => ∃ (q_now' : Nat → Int32), fI lNow hNow q_now' ∧ va_P (dC, dI) vwCl [(m0, .inr (11, oX11 ra x0)), (ra 2, .inl (kI, 8, .inl q_told)), (ra 3, .inl (kI, 24, .inl q_kind)), (ra 4, .inl (kI, 24, .inl q_salt)), (ra 8, .inl (kI, 40, .inl q_from)), (ra 9, .inl (kI, 40, .inl q_to)), (ra 10, .inl (kI, 6, .inl q_goal)), (ra 11, .inl (kI, 1019, .inl q_now')), (ra 14, .inl (kI, 12, .inl q_reach))] t.heap ∧ va_D (va_A [(m0, .inr (11, oX11 ra x0)), (ra 2, .inl (kI, 8, .inl q_told)), (ra 3, .inl (kI, 24, .inl q_kind)), (ra 4, .inl (kI, 24, .inl q_salt)), (ra 8, .inl (kI, 40, .inl q_from)), (ra 9, .inl (kI, 40, .inl q_to)), (ra 10, .inl (kI, 6, .inl q_goal)), (ra 11, .inl (kI, 1019, .inl q_now)), (ra 14, .inl (kI, 12, .inl q_reach))] sz) [(m0, .inr (11, oX11 ra x0)), (ra 2, .inl (kI, 8, .inl q_told)), (ra 3, .inl (kI, 24, .inl q_kind)), (ra 4, .inl (kI, 24, .inl q_salt)), (ra 8, .inl (kI, 40, .inl q_from)), (ra 9, .inl (kI, 40, .inl q_to)), (ra 10, .inl (kI, 6, .inl q_goal)), (ra 11, .inl (kI, 1019, .inl q_now')), (ra 14, .inl (kI, 12, .inl q_reach))]) (va_A [(m0, .inr (11, oX11 ra x0)), (ra 2, .inl (kI, 8, .inl q_told)), (ra 3, .inl (kI, 24, .inl q_kind)), (ra 4, .inl (kI, 24, .inl q_salt)), (ra 8, .inl (kI, 40, .inl q_from)), (ra 9, .inl (kI, 40, .inl q_to)), (ra 10, .inl (kI, 6, .inl q_goal)), (ra 11, .inl (kI, 1019, .inl q_now)), (ra 14, .inl (kI, 12, .inl q_reach))] sz)) 0 0 (va_A [(m0, .inr (11, oX11 ra x0)), (ra 2, .inl (kI, 8, .inl q_told)), (ra 3, .inl (kI, 24, .inl q_kind)), (ra 4, .inl (kI, 24, .inl q_salt)), (ra 8, .inl (kI, 40, .inl q_from)), (ra 9, .inl (kI, 40, .inl q_to)), (ra 10, .inl (kI, 6, .inl q_goal)), (ra 11, .inl (kI, 1019, .inl q_now)), (ra 14, .inl (kI, 12, .inl q_reach))] sz) := by
  refine Met.ofW (cc := cX11_goesBy) (maxL := 9) (ret := (some .int)) (by decide) rfl ?_
  intro p e s m args0 below meth c s₁ B hml hv
  obtain ⟨hargs, hsz, hP, hE, hD0⟩ := hv
  have hx := B.exec
  have hb := B.bytes
  have hr := B.returns
  have hts := atoms_spec (ws := wsX11_goesBy) B.pre
  have hown : s.vm.findClass RX11 = some m.cls := findClass_of_methodNamed B.named
  have hlocks := B.notSynchronized
  have hK := hE.1
  have hin11 : ∀ w ∈ wsX110, w ∈ wsX11_goesBy := fun _ h9 => List.mem_cons_of_mem _ (List.mem_append_right _ h9)
  have hw_0 := hts (.fieldLink RX11 58 "PathProberModel" "goal" "[I") (List.mem_of_getElem? (i := 1) rfl)
  have hw_1 := hts (.fieldLink RX11 76 "PathProberModel" "otherRouter" "I") (List.mem_of_getElem? (i := 2) rfl)
  have hw_2 := hts (.fieldLink RX11 38 "PathProberModel" "kind" "[I") (List.mem_of_getElem? (i := 4) rfl)
  have hw_3 := hts (.fieldLink RX11 41 "PathProberModel" "salt" "[I") (List.mem_of_getElem? (i := 6) rfl)
  have hw_4 := hts (.fieldLink RX11 60 "PathProberModel" "now" "[I") (List.mem_of_getElem? (i := 7) rfl)
  have hw_5 := hts (.fieldLink RX11 282 "PathProberModel" "isReal" "Z") (List.mem_of_getElem? (i := 8) rfl)
  have hw_6 := hts (.fieldLink RX11 276 "PathProberModel" "otherKind" "I") (List.mem_of_getElem? (i := 3) rfl)
  have hw_7 := hts (.fieldLink RX11 279 "PathProberModel" "otherSalt" "I") (List.mem_of_getElem? (i := 5) rfl)
  subst hsz
  have hD := hD0.self (sz := s.heap.size)
  generalize hAe : va_A [(m0, .inr (11, oX11 ra x0)), (ra 2, .inl (kI, 8, .inl q_told)), (ra 3, .inl (kI, 24, .inl q_kind)), (ra 4, .inl (kI, 24, .inl q_salt)), (ra 8, .inl (kI, 40, .inl q_from)), (ra 9, .inl (kI, 40, .inl q_to)), (ra 10, .inl (kI, 6, .inl q_goal)), (ra 11, .inl (kI, 1019, .inl q_now)), (ra 14, .inl (kI, 12, .inl q_reach))] s.heap.size = A at hD ⊢
  have hA : ∀ q : Nat, s.heap.size ≤ q → A q := fun q h => by rw [← hAe]; exact Or.inr h
  have hS : va_S A s.heap s.heap [] := va_S.rf
  have hP : va_P (dC, dI) vwCl [(m0, .inr (11, oX11 ra x0)), (ra 2, .inl (kI, 8, .inl q_told)), (ra 3, .inl (kI, 24, .inl q_kind)), (ra 4, .inl (kI, 24, .inl q_salt)), (ra 8, .inl (kI, 40, .inl q_from)), (ra 9, .inl (kI, 40, .inl q_to)), (ra 10, .inl (kI, 6, .inl q_goal)), (ra 11, .inl (kI, 1019, .inl q_now)), (ra 14, .inl (kI, 12, .inl q_reach))] s.heap := hP
  have hl := lv_entry ([.ref m0, .int p0, .int p1, .int p2]) (n := 9) (Nat.le_of_ble_eq_true rfl)
  have hla : entryFrame m args0 9 = entryFrame m ([.ref m0, .int p0, .int p1, .int p2] : List Value).toArray 9 := by rw [hargs]
  rw [hla, lg_entry_eq]
  generalize (lg_sl ([.ref m0, .int p0, .int p1, .int p2]) ++ List.replicate (9 - (lg_sl ([.ref m0, .int p0, .int p1, .int p2])).length) Slot.unset).toArray = ls at hl ⊢
  have hl : lv_has ls 9 [(0, .ref m0), (1, .int p0), (2, .int p1), (3, .int p2)] := hl
  refine lv_aload_n hx hb dX11_goesBy_0 rfl (lv_at hl 0 rfl) ?_
  refine va_get (D := (dC, dI)) (ci := 11) (v := .ref (ra 10)) (C := RX11) (T := TX11) (N := 61) hx hb hts hin11 hown hK hP 0 rfl rfl 11 (Nat.le_of_ble_eq_true rfl) hw_0 (fun _ h9 => h9) rfl dX11_goesBy_1 ?_
  refine lv_iload_n hx hb dX11_goesBy_4 rfl (lv_at hl 3 rfl) ?_
  refine va_iald hx hb hK hP 6 1 rfl rfl (iv_in hp2 (by decide) (by decide)) dX11_goesBy_5 ?_
  refine iv_top (a := 0) (b := 11) (hq_goal _) (fun z1 b2 => ?_)
  refine lv_istore (lv' := [(4, .int z1), (0, .ref m0), (1, .int p0), (2, .int p1), (3, .int p2)]) hx hb dX11_goesBy_6 hl (Nat.le_of_ble_eq_true rfl) rfl (fun ls hl => ?_)
  refine lv_aload_n hx hb dX11_goesBy_8 rfl (lv_at hl 1 rfl) ?_
  refine lv_iload_n hx hb dX11_goesBy_9 rfl (lv_at hl 2 rfl) ?_
  refine lv_iload hx hb dX11_goesBy_10 (lv_at hl 0 rfl) ?_
  obtain ⟨hPc, hDc, hFc, hJn⟩ := cl_a (wc := [(m0, .inr (11, oX11 ra x0)), (ra 2, .inl (kI, 8, .inl q_told)), (ra 8, .inl (kI, 40, .inl q_from)), (ra 9, .inl (kI, 40, .inl q_to)), (ra 14, .inl (kI, 12, .inl q_reach))]) (wr := [(ra 3, .inl (kI, 24, .inl q_kind)), (ra 4, .inl (kI, 24, .inl q_salt)), (ra 10, .inl (kI, 6, .inl q_goal)), (ra 11, .inl (kI, 1019, .inl q_now))]) hP hD hS hA [0, 1, 4, 5, 8] [2, 3, 6, 7] rfl rfl (by decide +kernel)
  refine va_calli (va_runV (As := [.int p0, .int z1]) (rest := []) ⟨hx, hb, hml, hown, hts⟩ (s11_branches l dC dI kB kI kJ kZ kC kS s.heap.size m0 ra x0 q_told q_from q_to q_reach p0 z1 (hX) (hq_told) (hq_from) (hq_to) (b2)) (cwV 2 hts gX11_goesBy_X11_branches rfl rfl rfl (by decide +kernel) ⟨Nat.le_of_ble_eq_true rfl, Nat.le_of_ble_eq_true rfl⟩) ⟨fun a U g mk q => by obtain ⟨q0, q1, qP, qE, qD⟩ := q; exact ⟨q0, q1, qP, kE_call qE, qD⟩, va_recv hK hP (ci := 11) (q0 := 0) rfl rfl, fun U hU hW => ⟨rfl, by rw [hU], by rw [hU]; exact hPc, kE_warm hW hE, hDc.weaken (fun _ _ _ _ => trivial)⟩⟩ rfl rfl hl.1 rfl (lv_room (Nat.le_of_ble_eq_true rfl)) dX11_goesBy_12 ⟨Nat.le_of_ble_eq_true rfl, Nat.le_of_ble_eq_true rfl⟩) hS (fun q _ h => hFc q h) hFc (fun r3 u t H locs ht hvm w4 hB hz1 hk1 hS => ?_)
  obtain ⟨hP1, hD1⟩ := hB
  try dsimp only at w4
  obtain ⟨hPa, hDa⟩ := hJn (w1 := [(m0, .inr (11, oX11 ra x0)), (ra 2, .inl (kI, 8, .inl q_told)), (ra 8, .inl (kI, 40, .inl q_from)), (ra 9, .inl (kI, 40, .inl q_to)), (ra 14, .inl (kI, 12, .inl q_reach))]) hk1 ht hP1 hD1
  clear hP hD hPc hDc hFc hJn hP1 hD1 hk1
  have hP : va_P (dC, dI) vwCl [(ra 3, .inl (kI, 24, .inl q_kind)), (ra 4, .inl (kI, 24, .inl q_salt)), (ra 10, .inl (kI, 6, .inl q_goal)), (ra 11, .inl (kI, 1019, .inl q_now)), (m0, .inr (11, oX11 ra x0)), (ra 2, .inl (kI, 8, .inl q_told)), (ra 8, .inl (kI, 40, .inl q_from)), (ra 9, .inl (kI, 40, .inl q_to)), (ra 14, .inl (kI, 12, .inl q_reach))] H := hPa
  have hD : va_D A [(ra 3, .inl (kI, 24, .inl q_kind)), (ra 4, .inl (kI, 24, .inl q_salt)), (ra 10, .inl (kI, 6, .inl q_goal)), (ra 11, .inl (kI, 1019, .inl q_now)), (m0, .inr (11, oX11 ra x0)), (ra 2, .inl (kI, 8, .inl q_told)), (ra 8, .inl (kI, 40, .inl q_from)), (ra 9, .inl (kI, 40, .inl q_to)), (ra 14, .inl (kI, 12, .inl q_reach))] := hDa
  clear hPa hDa
  refine W.widen (k := 0) (n := 0) (Nat.le_of_ble_eq_true rfl) (Nat.le_of_ble_eq_true rfl) ?_
  refine lv_istore (lv' := [(5, .int r3), (4, .int z1), (0, .ref m0), (1, .int p0), (2, .int p1), (3, .int p2)]) hx hb dX11_goesBy_15 hl (Nat.le_of_ble_eq_true rfl) rfl (fun ls hl => ?_)
  refine lv_iload hx hb dX11_goesBy_17 (lv_at hl 0 rfl) ?_
  refine lv_if_ne (tgt := 24) hx hb dX11_goesBy_19 rfl (fun c5 => ?_) (fun c5 => ?_)
  · refine lv_iload_n hx hb dX11_goesBy_24 rfl (lv_at hl 3 rfl) ?_
    refine lv_aload_n hx hb dX11_goesBy_25 rfl (lv_at hl 2 rfl) ?_
    refine va_get (D := (dC, dI)) (ci := 11) (v := .int (x0 11)) (C := RX11) (T := TX11) (N := 61) hx hb hts hin11 hown hK hP 4 rfl rfl 26 (Nat.le_of_ble_eq_true rfl) hw_1 (fun _ h9 => h9) rfl dX11_goesBy_26 ?_
    refine lv_icmp_ne (tgt := 39) hx hb dX11_goesBy_29 rfl (fun c6 => ?_) (fun c6 => ?_)
    · refine lv_aload_n hx hb dX11_goesBy_39 rfl (lv_at hl 2 rfl) ?_
      refine va_get (D := (dC, dI)) (ci := 11) (v := .ref (ra 3)) (C := RX11) (T := TX11) (N := 61) hx hb hts hin11 hown hK hP 4 rfl rfl 4 (Nat.le_of_ble_eq_true rfl) hw_2 (fun _ h9 => h9) rfl dX11_goesBy_40 ?_
      refine lv_iload_n hx hb dX11_goesBy_43 rfl (lv_at hl 3 rfl) ?_
      refine va_iald hx hb hK hP 0 1 rfl rfl (iv_in hp0 (by decide) (by decide)) dX11_goesBy_44 ?_
      refine lv_topi (fun z7 _ => ?_)
      refine lv_istore (lv' := [(6, .int z7), (5, .int r3), (4, .int z1), (0, .ref m0), (1, .int p0), (2, .int p1), (3, .int p2)]) hx hb dX11_goesBy_45 hl (Nat.le_of_ble_eq_true rfl) rfl (fun ls hl => ?_)
      refine lv_iload_n hx hb dX11_goesBy_47 rfl (lv_at hl 4 rfl) ?_
      refine lv_aload_n hx hb dX11_goesBy_48 rfl (lv_at hl 3 rfl) ?_
      refine va_get (D := (dC, dI)) (ci := 11) (v := .int (x0 11)) (C := RX11) (T := TX11) (N := 61) hx hb hts hin11 hown hK hP 4 rfl rfl 26 (Nat.le_of_ble_eq_true rfl) hw_1 (fun _ h9 => h9) rfl dX11_goesBy_49 ?_
      refine lv_icmp_ne (tgt := 62) hx hb dX11_goesBy_52 rfl (fun _ => ?_) (fun c9 => absurd c9 (c6))
      refine lv_aload_n hx hb dX11_goesBy_62 rfl (lv_at hl 3 rfl) ?_
      refine va_get (D := (dC, dI)) (ci := 11) (v := .ref (ra 4)) (C := RX11) (T := TX11) (N := 61) hx hb hts hin11 hown hK hP 4 rfl rfl 5 (Nat.le_of_ble_eq_true rfl) hw_3 (fun _ h9 => h9) rfl dX11_goesBy_63 ?_
      refine lv_iload_n hx hb dX11_goesBy_66 rfl (lv_at hl 4 rfl) ?_
      refine va_iald hx hb hK hP 1 1 rfl rfl (iv_in hp0 (by decide) (by decide)) dX11_goesBy_67 ?_
      refine iv_top (a := 0) (b := 15) (hq_salt _) (fun z8 b9 => ?_)
      refine lv_istore (lv' := [(7, .int z8), (6, .int z7), (5, .int r3), (4, .int z1), (0, .ref m0), (1, .int p0), (2, .int p1), (3, .int p2)]) hx hb dX11_goesBy_68 hl (Nat.le_of_ble_eq_true rfl) rfl (fun ls hl => ?_)
      refine lv_iload hx hb dX11_goesBy_70 (lv_at hl 1 rfl) ?_
      refine lv_if_ne (tgt := 79) hx hb dX11_goesBy_72 rfl (fun c10 => ?_) (fun c10 => ?_)
      · refine lv_iload hx hb dX11_goesBy_79 (lv_at hl 1 rfl) ?_
        refine lv_iconst (v := 1) hx hb dX11_goesBy_81 ic_1 ?_
        refine lv_icmp_ne (tgt := 100) hx hb dX11_goesBy_82 rfl (fun c11 => ?_) (fun c11 => ?_)
        · refine lv_iload hx hb dX11_goesBy_100 (lv_at hl 1 rfl) ?_
          refine lv_iconst (v := 3) hx hb dX11_goesBy_102 ic_3 ?_
          refine lv_icmp_ne (tgt := 116) hx hb dX11_goesBy_103 rfl (fun c12 => ?_) (fun c12 => ?_)
          · refine lv_aload_n hx hb dX11_goesBy_116 rfl (lv_at hl 4 rfl) ?_
            refine va_get (D := (dC, dI)) (ci := 11) (v := .ref (ra 11)) (C := RX11) (T := TX11) (N := 61) hx hb hts hin11 hown hK hP 4 rfl rfl 12 (Nat.le_of_ble_eq_true rfl) hw_4 (fun _ h9 => h9) rfl dX11_goesBy_117 ?_
            refine lv_iconst (v := 0) hx hb dX11_goesBy_120 ic_0 ?_
            refine lv_iload_n hx hb dX11_goesBy_121 rfl (lv_at hl 5 rfl) ?_
            refine lv_iadd hx hb dX11_goesBy_122 ?_
            refine iv_top (a := 0) (b := 11) (iv_add ivk_0 hp0 (by decide) (by decide) (by decide) (by decide)) (fun z13 b14 => ?_)
            refine va_iald hx hb hK hP 3 1 rfl rfl (iv_in b14 (by decide) (by decide)) dX11_goesBy_123 ?_
            refine iv_top (a := 0) (b := 59) (now_t hq_now b14 (by decide) (by decide)) (fun z15 b16 => ?_)
            refine lv_istore (lv' := [(8, .int z15), (7, .int z8), (6, .int z7), (5, .int r3), (4, .int z1), (0, .ref m0), (1, .int p0), (2, .int p1), (3, .int p2)]) hx hb dX11_goesBy_124 hl (Nat.le_of_ble_eq_true rfl) rfl (fun ls hl => ?_)
            refine lv_iload hx hb dX11_goesBy_126 (lv_at hl 2 rfl) ?_
            refine lv_iconst (v := 2) hx hb dX11_goesBy_128 ic_2 ?_
            refine lv_icmp_ne (tgt := 160) hx hb dX11_goesBy_129 rfl (fun c17 => ?_) (fun c17 => ?_)
            · refine lv_aload_n hx hb dX11_goesBy_160 rfl (lv_at hl 5 rfl) ?_
              refine lv_iload_n hx hb dX11_goesBy_161 rfl (lv_at hl 6 rfl) ?_
              refine lv_iload hx hb dX11_goesBy_162 (lv_at hl 4 rfl) ?_
              refine lv_iload hx hb dX11_goesBy_164 (lv_at hl 0 rfl) ?_
              refine lv_iload hx hb dX11_goesBy_166 (lv_at hl 3 rfl) ?_
              refine lv_irem hx hb dX11_goesBy_168 c5 ?_
              refine lv_topi (fun z18 _ => ?_)
              obtain ⟨hPc, hDc, hFc, hJn⟩ := cl_a (wc := [(m0, .inr (11, oX11 ra x0)), (ra 2, .inl (kI, 8, .inl q_told)), (ra 8, .inl (kI, 40, .inl q_from)), (ra 9, .inl (kI, 40, .inl q_to)), (ra 14, .inl (kI, 12, .inl q_reach))]) (wr := [(ra 3, .inl (kI, 24, .inl q_kind)), (ra 4, .inl (kI, 24, .inl q_salt)), (ra 10, .inl (kI, 6, .inl q_goal)), (ra 11, .inl (kI, 1019, .inl q_now))]) hP hD hS hA [4, 5, 6, 7, 8] [0, 1, 2, 3] rfl rfl (by decide +kernel)
              refine va_calli (va_runV (As := [.int p0, .int z1, .int z18]) (rest := []) ⟨hx, hb, hml, hown, hts⟩ (s11_branchAt l dC dI kB kI kJ kZ kC kS H.size m0 ra x0 q_told q_from q_to q_reach p0 z1 z18 (hX) (hq_told) (hq_from) (hq_to) (b2)) (cwV 3 hts gX11_goesBy_X11_branchAt rfl rfl rfl (by decide +kernel) ⟨Nat.le_of_ble_eq_true rfl, Nat.le_of_ble_eq_true rfl⟩) ⟨fun a U g mk q => by obtain ⟨q0, q1, qP, qE, qD⟩ := q; exact ⟨q0, q1, qP, kE_call qE, qD⟩, va_recv hK hP (ci := 11) (q0 := 4) rfl rfl, fun U hU hW => ⟨rfl, by rw [hU], by rw [hU]; exact hPc, kE_warm hW hE, hDc.weaken (fun _ _ _ _ => trivial)⟩⟩ rfl rfl hl.1 rfl (lv_room (Nat.le_of_ble_eq_true rfl)) dX11_goesBy_169 ⟨Nat.le_of_ble_eq_true rfl, Nat.le_of_ble_eq_true rfl⟩) hS (fun q _ h => hFc q h) hFc (fun r19 u t H locs ht hvm w20 hB hz1 hk1 hS => ?_)
              obtain ⟨hP1, hD1⟩ := hB
              try dsimp only at w20
              obtain ⟨hPa, hDa⟩ := hJn (w1 := [(m0, .inr (11, oX11 ra x0)), (ra 2, .inl (kI, 8, .inl q_told)), (ra 8, .inl (kI, 40, .inl q_from)), (ra 9, .inl (kI, 40, .inl q_to)), (ra 14, .inl (kI, 12, .inl q_reach))]) hk1 ht hP1 hD1
              clear hP hD hPc hDc hFc hJn hP1 hD1 hk1
              have hP : va_P (dC, dI) vwCl [(ra 3, .inl (kI, 24, .inl q_kind)), (ra 4, .inl (kI, 24, .inl q_salt)), (ra 10, .inl (kI, 6, .inl q_goal)), (ra 11, .inl (kI, 1019, .inl q_now)), (m0, .inr (11, oX11 ra x0)), (ra 2, .inl (kI, 8, .inl q_told)), (ra 8, .inl (kI, 40, .inl q_from)), (ra 9, .inl (kI, 40, .inl q_to)), (ra 14, .inl (kI, 12, .inl q_reach))] H := hPa
              have hD : va_D A [(ra 3, .inl (kI, 24, .inl q_kind)), (ra 4, .inl (kI, 24, .inl q_salt)), (ra 10, .inl (kI, 6, .inl q_goal)), (ra 11, .inl (kI, 1019, .inl q_now)), (m0, .inr (11, oX11 ra x0)), (ra 2, .inl (kI, 8, .inl q_told)), (ra 8, .inl (kI, 40, .inl q_from)), (ra 9, .inl (kI, 40, .inl q_to)), (ra 14, .inl (kI, 12, .inl q_reach))] := hDa
              clear hPa hDa
              refine W.widen (k := 0) (n := 0) (Nat.le_of_ble_eq_true rfl) (Nat.le_of_ble_eq_true rfl) ?_
              have hPD9 := cl_s (wc := [(m0, .inr (11, oX11 ra x0)), (ra 2, .inl (kI, 8, .inl q_told)), (ra 3, .inl (kI, 24, .inl q_kind)), (ra 4, .inl (kI, 24, .inl q_salt)), (ra 8, .inl (kI, 40, .inl q_from)), (ra 9, .inl (kI, 40, .inl q_to)), (ra 10, .inl (kI, 6, .inl q_goal)), (ra 11, .inl (kI, 1019, .inl q_now)), (ra 14, .inl (kI, 12, .inl q_reach))]) hP hD [4, 5, 0, 1, 6, 7, 2, 3, 8] rfl (by decide +kernel)
              have hP9 := hPD9.1
              have hD9 := hPD9.2
              exact W.iret (v := r19) hx hb hr (fun t ht hW => ⟨⟨r19, (), rfl, ⟨w20.1, w20.2⟩, q_now, hq_now, by rw [ht]; exact hP9, hD9⟩, hS.F ht⟩) hS.2.2 dX11_goesBy_172
            · have b21 : iv 2 2 z7 := iv_eqL c17 ivk_2
              refine lv_aload_n hx hb dX11_goesBy_132 rfl (lv_at hl 5 rfl) ?_
              refine va_get (D := (dC, dI)) (ci := 11) (v := .int (x0 14)) (C := RX11) (T := TX11) (N := 61) hx hb hts hin11 hown hK hP 4 rfl rfl 29 (Nat.le_of_ble_eq_true rfl) hw_5 (fun _ h9 => h9) rfl dX11_goesBy_133 ?_
              refine lv_if_eq (tgt := 160) hx hb dX11_goesBy_136 rfl (fun c22 => ?_) (fun c22 => ?_)
              · have b23 : iv 0 0 (x0 14) := iv_eqL c22 ivk_0
                refine lv_aload_n hx hb dX11_goesBy_160 rfl (lv_at hl 5 rfl) ?_
                refine lv_iload_n hx hb dX11_goesBy_161 rfl (lv_at hl 6 rfl) ?_
                refine lv_iload hx hb dX11_goesBy_162 (lv_at hl 4 rfl) ?_
                refine lv_iload hx hb dX11_goesBy_164 (lv_at hl 0 rfl) ?_
                refine lv_iload hx hb dX11_goesBy_166 (lv_at hl 3 rfl) ?_
                refine lv_irem hx hb dX11_goesBy_168 c5 ?_
                refine lv_topi (fun z24 _ => ?_)
                obtain ⟨hPc, hDc, hFc, hJn⟩ := cl_a (wc := [(m0, .inr (11, oX11 ra x0)), (ra 2, .inl (kI, 8, .inl q_told)), (ra 8, .inl (kI, 40, .inl q_from)), (ra 9, .inl (kI, 40, .inl q_to)), (ra 14, .inl (kI, 12, .inl q_reach))]) (wr := [(ra 3, .inl (kI, 24, .inl q_kind)), (ra 4, .inl (kI, 24, .inl q_salt)), (ra 10, .inl (kI, 6, .inl q_goal)), (ra 11, .inl (kI, 1019, .inl q_now))]) hP hD hS hA [4, 5, 6, 7, 8] [0, 1, 2, 3] rfl rfl (by decide +kernel)
                refine va_calli (va_runV (As := [.int p0, .int z1, .int z24]) (rest := []) ⟨hx, hb, hml, hown, hts⟩ (s11_branchAt l dC dI kB kI kJ kZ kC kS H.size m0 ra x0 q_told q_from q_to q_reach p0 z1 z24 (hX) (hq_told) (hq_from) (hq_to) (b2)) (cwV 3 hts gX11_goesBy_X11_branchAt rfl rfl rfl (by decide +kernel) ⟨Nat.le_of_ble_eq_true rfl, Nat.le_of_ble_eq_true rfl⟩) ⟨fun a U g mk q => by obtain ⟨q0, q1, qP, qE, qD⟩ := q; exact ⟨q0, q1, qP, kE_call qE, qD⟩, va_recv hK hP (ci := 11) (q0 := 4) rfl rfl, fun U hU hW => ⟨rfl, by rw [hU], by rw [hU]; exact hPc, kE_warm hW hE, hDc.weaken (fun _ _ _ _ => trivial)⟩⟩ rfl rfl hl.1 rfl (lv_room (Nat.le_of_ble_eq_true rfl)) dX11_goesBy_169 ⟨Nat.le_of_ble_eq_true rfl, Nat.le_of_ble_eq_true rfl⟩) hS (fun q _ h => hFc q h) hFc (fun r25 u t H locs ht hvm w26 hB hz1 hk1 hS => ?_)
                obtain ⟨hP1, hD1⟩ := hB
                try dsimp only at w26
                obtain ⟨hPa, hDa⟩ := hJn (w1 := [(m0, .inr (11, oX11 ra x0)), (ra 2, .inl (kI, 8, .inl q_told)), (ra 8, .inl (kI, 40, .inl q_from)), (ra 9, .inl (kI, 40, .inl q_to)), (ra 14, .inl (kI, 12, .inl q_reach))]) hk1 ht hP1 hD1
                clear hP hD hPc hDc hFc hJn hP1 hD1 hk1
                have hP : va_P (dC, dI) vwCl [(ra 3, .inl (kI, 24, .inl q_kind)), (ra 4, .inl (kI, 24, .inl q_salt)), (ra 10, .inl (kI, 6, .inl q_goal)), (ra 11, .inl (kI, 1019, .inl q_now)), (m0, .inr (11, oX11 ra x0)), (ra 2, .inl (kI, 8, .inl q_told)), (ra 8, .inl (kI, 40, .inl q_from)), (ra 9, .inl (kI, 40, .inl q_to)), (ra 14, .inl (kI, 12, .inl q_reach))] H := hPa
                have hD : va_D A [(ra 3, .inl (kI, 24, .inl q_kind)), (ra 4, .inl (kI, 24, .inl q_salt)), (ra 10, .inl (kI, 6, .inl q_goal)), (ra 11, .inl (kI, 1019, .inl q_now)), (m0, .inr (11, oX11 ra x0)), (ra 2, .inl (kI, 8, .inl q_told)), (ra 8, .inl (kI, 40, .inl q_from)), (ra 9, .inl (kI, 40, .inl q_to)), (ra 14, .inl (kI, 12, .inl q_reach))] := hDa
                clear hPa hDa
                refine W.widen (k := 0) (n := 0) (Nat.le_of_ble_eq_true rfl) (Nat.le_of_ble_eq_true rfl) ?_
                have hPD9 := cl_s (wc := [(m0, .inr (11, oX11 ra x0)), (ra 2, .inl (kI, 8, .inl q_told)), (ra 3, .inl (kI, 24, .inl q_kind)), (ra 4, .inl (kI, 24, .inl q_salt)), (ra 8, .inl (kI, 40, .inl q_from)), (ra 9, .inl (kI, 40, .inl q_to)), (ra 10, .inl (kI, 6, .inl q_goal)), (ra 11, .inl (kI, 1019, .inl q_now)), (ra 14, .inl (kI, 12, .inl q_reach))]) hP hD [4, 5, 0, 1, 6, 7, 2, 3, 8] rfl (by decide +kernel)
                have hP9 := hPD9.1
                have hD9 := hPD9.2
                exact W.iret (v := r25) hx hb hr (fun t ht hW => ⟨⟨r25, (), rfl, ⟨w26.1, w26.2⟩, q_now, hq_now, by rw [ht]; exact hP9, hD9⟩, hS.F ht⟩) hS.2.2 dX11_goesBy_172
              · refine lv_aload_n hx hb dX11_goesBy_139 rfl (lv_at hl 5 rfl) ?_
                refine va_get (D := (dC, dI)) (ci := 11) (v := .ref (ra 11)) (C := RX11) (T := TX11) (N := 61) hx hb hts hin11 hown hK hP 4 rfl rfl 12 (Nat.le_of_ble_eq_true rfl) hw_4 (fun _ h9 => h9) rfl dX11_goesBy_140 ?_
                refine lv_iconst (v := 0) hx hb dX11_goesBy_143 ic_0 ?_
                refine lv_iload_n hx hb dX11_goesBy_144 rfl (lv_at hl 6 rfl) ?_
                refine lv_iadd hx hb dX11_goesBy_145 ?_
                refine iv_top (a := 0) (b := 11) (iv_add ivk_0 hp0 (by decide) (by decide) (by decide) (by decide)) (fun z27 b28 => ?_)
                refine lv_aload_n hx hb dX11_goesBy_146 rfl (lv_at hl 5 rfl) ?_
                refine va_get (D := (dC, dI)) (ci := 11) (v := .ref (ra 11)) (C := RX11) (T := TX11) (N := 61) hx hb hts hin11 hown hK hP 4 rfl rfl 12 (Nat.le_of_ble_eq_true rfl) hw_4 (fun _ h9 => h9) rfl dX11_goesBy_147 ?_
                refine lv_iconst (v := 0) hx hb dX11_goesBy_150 ic_0 ?_
                refine lv_iload_n hx hb dX11_goesBy_151 rfl (lv_at hl 6 rfl) ?_
                refine lv_iadd hx hb dX11_goesBy_152 ?_
                refine iv_top (a := 0) (b := 11) (iv_add ivk_0 hp0 (by decide) (by decide) (by decide) (by decide)) (fun z29 b30 => ?_)
                refine va_iald hx hb hK hP 3 1 rfl rfl (iv_in b30 (by decide) (by decide)) dX11_goesBy_153 ?_
                refine iv_top (a := 0) (b := 59) (now_t hq_now b30 (by decide) (by decide)) (fun z31 b32 => ?_)
                refine lv_iconst (v := 1) hx hb dX11_goesBy_154 ic_1 ?_
                refine lv_iadd hx hb dX11_goesBy_155 ?_
                refine iv_top (a := 1) (b := 60) (iv_add b32 ivk_1 (by decide) (by decide) (by decide) (by decide)) (fun z33 b34 => ?_)
                refine lv_bipush (v := 60) hx hb dX11_goesBy_156 bp_60 ?_
                refine lv_irem hx hb dX11_goesBy_158 (by decide) ?_
                refine iv_top (a := 0) (b := 59) (iv_rem b34 ivk_60 (by decide) (by decide) (by decide) (by decide)) (fun z35 b36 => ?_)
                refine va_iast hx hb hK hP hD hS 3 1 rfl rfl (iv_in b28 (by decide) (by decide)) dX11_goesBy_159 (fun H locs hPa hDa hS => ?_)
                clear hP hD
                have hP : va_P (dC, dI) vwCl [(ra 3, .inl (kI, 24, .inl q_kind)), (ra 4, .inl (kI, 24, .inl q_salt)), (ra 10, .inl (kI, 6, .inl q_goal)), (ra 11, .inl (kI, 1019, .inl (upd q_now z27.toNatClampNeg z35))), (m0, .inr (11, oX11 ra x0)), (ra 2, .inl (kI, 8, .inl q_told)), (ra 8, .inl (kI, 40, .inl q_from)), (ra 9, .inl (kI, 40, .inl q_to)), (ra 14, .inl (kI, 12, .inl q_reach))] H := hPa
                have hD : va_D A [(ra 3, .inl (kI, 24, .inl q_kind)), (ra 4, .inl (kI, 24, .inl q_salt)), (ra 10, .inl (kI, 6, .inl q_goal)), (ra 11, .inl (kI, 1019, .inl (upd q_now z27.toNatClampNeg z35))), (m0, .inr (11, oX11 ra x0)), (ra 2, .inl (kI, 8, .inl q_told)), (ra 8, .inl (kI, 40, .inl q_from)), (ra 9, .inl (kI, 40, .inl q_to)), (ra 14, .inl (kI, 12, .inl q_reach))] := hDa
                clear hPa hDa
                have hf38 : fI lNow hNow (upd q_now z27.toNatClampNeg z35) := fI_u hq_now (k := z27.toNatClampNeg) (now_pt b28 (by decide) (by decide) b36)
                generalize (upd q_now z27.toNatClampNeg z35) = f37 at hP hD hf38
                refine lv_aload_n hx hb dX11_goesBy_160 rfl (lv_at hl 5 rfl) ?_
                refine lv_iload_n hx hb dX11_goesBy_161 rfl (lv_at hl 6 rfl) ?_
                refine lv_iload hx hb dX11_goesBy_162 (lv_at hl 4 rfl) ?_
                refine lv_iload hx hb dX11_goesBy_164 (lv_at hl 0 rfl) ?_
                refine lv_iload hx hb dX11_goesBy_166 (lv_at hl 3 rfl) ?_
                refine lv_irem hx hb dX11_goesBy_168 c5 ?_
                refine lv_topi (fun z39 _ => ?_)
                obtain ⟨hPc, hDc, hFc, hJn⟩ := cl_a (wc := [(m0, .inr (11, oX11 ra x0)), (ra 2, .inl (kI, 8, .inl q_told)), (ra 8, .inl (kI, 40, .inl q_from)), (ra 9, .inl (kI, 40, .inl q_to)), (ra 14, .inl (kI, 12, .inl q_reach))]) (wr := [(ra 3, .inl (kI, 24, .inl q_kind)), (ra 4, .inl (kI, 24, .inl q_salt)), (ra 10, .inl (kI, 6, .inl q_goal)), (ra 11, .inl (kI, 1019, .inl f37))]) hP hD hS hA [4, 5, 6, 7, 8] [0, 1, 2, 3] rfl rfl (by decide +kernel)
                refine va_calli (va_runV (As := [.int p0, .int z1, .int z39]) (rest := []) ⟨hx, hb, hml, hown, hts⟩ (s11_branchAt l dC dI kB kI kJ kZ kC kS H.size m0 ra x0 q_told q_from q_to q_reach p0 z1 z39 (hX) (hq_told) (hq_from) (hq_to) (b2)) (cwV 3 hts gX11_goesBy_X11_branchAt rfl rfl rfl (by decide +kernel) ⟨Nat.le_of_ble_eq_true rfl, Nat.le_of_ble_eq_true rfl⟩) ⟨fun a U g mk q => by obtain ⟨q0, q1, qP, qE, qD⟩ := q; exact ⟨q0, q1, qP, kE_call qE, qD⟩, va_recv hK hP (ci := 11) (q0 := 4) rfl rfl, fun U hU hW => ⟨rfl, by rw [hU], by rw [hU]; exact hPc, kE_warm hW hE, hDc.weaken (fun _ _ _ _ => trivial)⟩⟩ rfl rfl hl.1 rfl (lv_room (Nat.le_of_ble_eq_true rfl)) dX11_goesBy_169 ⟨Nat.le_of_ble_eq_true rfl, Nat.le_of_ble_eq_true rfl⟩) hS (fun q _ h => hFc q h) hFc (fun r40 u t H locs ht hvm w41 hB hz1 hk1 hS => ?_)
                obtain ⟨hP1, hD1⟩ := hB
                try dsimp only at w41
                obtain ⟨hPa, hDa⟩ := hJn (w1 := [(m0, .inr (11, oX11 ra x0)), (ra 2, .inl (kI, 8, .inl q_told)), (ra 8, .inl (kI, 40, .inl q_from)), (ra 9, .inl (kI, 40, .inl q_to)), (ra 14, .inl (kI, 12, .inl q_reach))]) hk1 ht hP1 hD1
                clear hP hD hPc hDc hFc hJn hP1 hD1 hk1
                have hP : va_P (dC, dI) vwCl [(ra 3, .inl (kI, 24, .inl q_kind)), (ra 4, .inl (kI, 24, .inl q_salt)), (ra 10, .inl (kI, 6, .inl q_goal)), (ra 11, .inl (kI, 1019, .inl f37)), (m0, .inr (11, oX11 ra x0)), (ra 2, .inl (kI, 8, .inl q_told)), (ra 8, .inl (kI, 40, .inl q_from)), (ra 9, .inl (kI, 40, .inl q_to)), (ra 14, .inl (kI, 12, .inl q_reach))] H := hPa
                have hD : va_D A [(ra 3, .inl (kI, 24, .inl q_kind)), (ra 4, .inl (kI, 24, .inl q_salt)), (ra 10, .inl (kI, 6, .inl q_goal)), (ra 11, .inl (kI, 1019, .inl f37)), (m0, .inr (11, oX11 ra x0)), (ra 2, .inl (kI, 8, .inl q_told)), (ra 8, .inl (kI, 40, .inl q_from)), (ra 9, .inl (kI, 40, .inl q_to)), (ra 14, .inl (kI, 12, .inl q_reach))] := hDa
                clear hPa hDa
                refine W.widen (k := 0) (n := 0) (Nat.le_of_ble_eq_true rfl) (Nat.le_of_ble_eq_true rfl) ?_
                have hPD9 := cl_s (wc := [(m0, .inr (11, oX11 ra x0)), (ra 2, .inl (kI, 8, .inl q_told)), (ra 3, .inl (kI, 24, .inl q_kind)), (ra 4, .inl (kI, 24, .inl q_salt)), (ra 8, .inl (kI, 40, .inl q_from)), (ra 9, .inl (kI, 40, .inl q_to)), (ra 10, .inl (kI, 6, .inl q_goal)), (ra 11, .inl (kI, 1019, .inl f37)), (ra 14, .inl (kI, 12, .inl q_reach))]) hP hD [4, 5, 0, 1, 6, 7, 2, 3, 8] rfl (by decide +kernel)
                have hP9 := hPD9.1
                have hD9 := hPD9.2
                exact W.iret (v := r40) hx hb hr (fun t ht hW => ⟨⟨r40, (), rfl, ⟨w41.1, w41.2⟩, f37, hf38, by rw [ht]; exact hP9, hD9⟩, hS.F ht⟩) hS.2.2 dX11_goesBy_172
          · have b42 : iv 3 3 z7 := iv_eqL c12 ivk_3
            refine lv_bipush (v := 13) hx hb dX11_goesBy_106 bp_13 ?_
            refine lv_iload_n hx hb dX11_goesBy_108 rfl (lv_at hl 7 rfl) ?_
            refine lv_imul hx hb dX11_goesBy_109 ?_
            refine iv_top (a := 0) (b := 26) (iv_mul ivk_13 hp2 (by decide) (by decide) (by decide) (by decide) (by decide)) (fun z43 b44 => ?_)
            refine lv_iload hx hb dX11_goesBy_110 (lv_at hl 0 rfl) ?_
            refine lv_iadd hx hb dX11_goesBy_112 ?_
            refine iv_top (a := 0) (b := 41) (iv_add b44 b9 (by decide) (by decide) (by decide) (by decide)) (fun z45 b46 => ?_)
            refine lv_goto (tgt := 124) hx hb dX11_goesBy_113 rfl ?_
            refine lv_istore (lv' := [(8, .int z45), (7, .int z8), (6, .int z7), (5, .int r3), (4, .int z1), (0, .ref m0), (1, .int p0), (2, .int p1), (3, .int p2)]) hx hb dX11_goesBy_124 hl (Nat.le_of_ble_eq_true rfl) rfl (fun ls hl => ?_)
            refine lv_iload hx hb dX11_goesBy_126 (lv_at hl 2 rfl) ?_
            refine lv_iconst (v := 2) hx hb dX11_goesBy_128 ic_2 ?_
            refine lv_icmp_ne (tgt := 160) hx hb dX11_goesBy_129 rfl (fun _ => ?_) (fun c9 => absurd c9 (iv_ne b42 ivk_2 (by decide)))
            refine lv_aload_n hx hb dX11_goesBy_160 rfl (lv_at hl 5 rfl) ?_
            refine lv_iload_n hx hb dX11_goesBy_161 rfl (lv_at hl 6 rfl) ?_
            refine lv_iload hx hb dX11_goesBy_162 (lv_at hl 4 rfl) ?_
            refine lv_iload hx hb dX11_goesBy_164 (lv_at hl 0 rfl) ?_
            refine lv_iload hx hb dX11_goesBy_166 (lv_at hl 3 rfl) ?_
            refine lv_irem hx hb dX11_goesBy_168 c5 ?_
            refine lv_topi (fun z47 _ => ?_)
            obtain ⟨hPc, hDc, hFc, hJn⟩ := cl_a (wc := [(m0, .inr (11, oX11 ra x0)), (ra 2, .inl (kI, 8, .inl q_told)), (ra 8, .inl (kI, 40, .inl q_from)), (ra 9, .inl (kI, 40, .inl q_to)), (ra 14, .inl (kI, 12, .inl q_reach))]) (wr := [(ra 3, .inl (kI, 24, .inl q_kind)), (ra 4, .inl (kI, 24, .inl q_salt)), (ra 10, .inl (kI, 6, .inl q_goal)), (ra 11, .inl (kI, 1019, .inl q_now))]) hP hD hS hA [4, 5, 6, 7, 8] [0, 1, 2, 3] rfl rfl (by decide +kernel)
            refine va_calli (va_runV (As := [.int p0, .int z1, .int z47]) (rest := []) ⟨hx, hb, hml, hown, hts⟩ (s11_branchAt l dC dI kB kI kJ kZ kC kS H.size m0 ra x0 q_told q_from q_to q_reach p0 z1 z47 (hX) (hq_told) (hq_from) (hq_to) (b2)) (cwV 3 hts gX11_goesBy_X11_branchAt rfl rfl rfl (by decide +kernel) ⟨Nat.le_of_ble_eq_true rfl, Nat.le_of_ble_eq_true rfl⟩) ⟨fun a U g mk q => by obtain ⟨q0, q1, qP, qE, qD⟩ := q; exact ⟨q0, q1, qP, kE_call qE, qD⟩, va_recv hK hP (ci := 11) (q0 := 4) rfl rfl, fun U hU hW => ⟨rfl, by rw [hU], by rw [hU]; exact hPc, kE_warm hW hE, hDc.weaken (fun _ _ _ _ => trivial)⟩⟩ rfl rfl hl.1 rfl (lv_room (Nat.le_of_ble_eq_true rfl)) dX11_goesBy_169 ⟨Nat.le_of_ble_eq_true rfl, Nat.le_of_ble_eq_true rfl⟩) hS (fun q _ h => hFc q h) hFc (fun r48 u t H locs ht hvm w49 hB hz1 hk1 hS => ?_)
            obtain ⟨hP1, hD1⟩ := hB
            try dsimp only at w49
            obtain ⟨hPa, hDa⟩ := hJn (w1 := [(m0, .inr (11, oX11 ra x0)), (ra 2, .inl (kI, 8, .inl q_told)), (ra 8, .inl (kI, 40, .inl q_from)), (ra 9, .inl (kI, 40, .inl q_to)), (ra 14, .inl (kI, 12, .inl q_reach))]) hk1 ht hP1 hD1
            clear hP hD hPc hDc hFc hJn hP1 hD1 hk1
            have hP : va_P (dC, dI) vwCl [(ra 3, .inl (kI, 24, .inl q_kind)), (ra 4, .inl (kI, 24, .inl q_salt)), (ra 10, .inl (kI, 6, .inl q_goal)), (ra 11, .inl (kI, 1019, .inl q_now)), (m0, .inr (11, oX11 ra x0)), (ra 2, .inl (kI, 8, .inl q_told)), (ra 8, .inl (kI, 40, .inl q_from)), (ra 9, .inl (kI, 40, .inl q_to)), (ra 14, .inl (kI, 12, .inl q_reach))] H := hPa
            have hD : va_D A [(ra 3, .inl (kI, 24, .inl q_kind)), (ra 4, .inl (kI, 24, .inl q_salt)), (ra 10, .inl (kI, 6, .inl q_goal)), (ra 11, .inl (kI, 1019, .inl q_now)), (m0, .inr (11, oX11 ra x0)), (ra 2, .inl (kI, 8, .inl q_told)), (ra 8, .inl (kI, 40, .inl q_from)), (ra 9, .inl (kI, 40, .inl q_to)), (ra 14, .inl (kI, 12, .inl q_reach))] := hDa
            clear hPa hDa
            refine W.widen (k := 0) (n := 0) (Nat.le_of_ble_eq_true rfl) (Nat.le_of_ble_eq_true rfl) ?_
            have hPD9 := cl_s (wc := [(m0, .inr (11, oX11 ra x0)), (ra 2, .inl (kI, 8, .inl q_told)), (ra 3, .inl (kI, 24, .inl q_kind)), (ra 4, .inl (kI, 24, .inl q_salt)), (ra 8, .inl (kI, 40, .inl q_from)), (ra 9, .inl (kI, 40, .inl q_to)), (ra 10, .inl (kI, 6, .inl q_goal)), (ra 11, .inl (kI, 1019, .inl q_now)), (ra 14, .inl (kI, 12, .inl q_reach))]) hP hD [4, 5, 0, 1, 6, 7, 2, 3, 8] rfl (by decide +kernel)
            have hP9 := hPD9.1
            have hD9 := hPD9.2
            exact W.iret (v := r48) hx hb hr (fun t ht hW => ⟨⟨r48, (), rfl, ⟨w49.1, w49.2⟩, q_now, hq_now, by rw [ht]; exact hP9, hD9⟩, hS.F ht⟩) hS.2.2 dX11_goesBy_172
        · have b50 : iv 1 1 z7 := iv_eqL c11 ivk_1
          refine lv_bipush (v := 7) hx hb dX11_goesBy_85 bp_7 ?_
          refine lv_iload_n hx hb dX11_goesBy_87 rfl (lv_at hl 6 rfl) ?_
          refine lv_imul hx hb dX11_goesBy_88 ?_
          refine iv_top (a := 0) (b := 217) (iv_mul ivk_7 hp1 (by decide) (by decide) (by decide) (by decide) (by decide)) (fun z51 b52 => ?_)
          refine lv_bipush (v := 13) hx hb dX11_goesBy_89 bp_13 ?_
          refine lv_iload_n hx hb dX11_goesBy_91 rfl (lv_at hl 7 rfl) ?_
          refine lv_imul hx hb dX11_goesBy_92 ?_
          refine iv_top (a := 0) (b := 26) (iv_mul ivk_13 hp2 (by decide) (by decide) (by decide) (by decide) (by decide)) (fun z53 b54 => ?_)
          refine lv_iadd hx hb dX11_goesBy_93 ?_
          refine iv_top (a := 0) (b := 243) (iv_add b52 b54 (by decide) (by decide) (by decide) (by decide)) (fun z55 b56 => ?_)
          refine lv_iload hx hb dX11_goesBy_94 (lv_at hl 0 rfl) ?_
          refine lv_iadd hx hb dX11_goesBy_96 ?_
          refine iv_top (a := 0) (b := 258) (iv_add b56 b9 (by decide) (by decide) (by decide) (by decide)) (fun z57 b58 => ?_)
          refine lv_goto (tgt := 124) hx hb dX11_goesBy_97 rfl ?_
          refine lv_istore (lv' := [(8, .int z57), (7, .int z8), (6, .int z7), (5, .int r3), (4, .int z1), (0, .ref m0), (1, .int p0), (2, .int p1), (3, .int p2)]) hx hb dX11_goesBy_124 hl (Nat.le_of_ble_eq_true rfl) rfl (fun ls hl => ?_)
          refine lv_iload hx hb dX11_goesBy_126 (lv_at hl 2 rfl) ?_
          refine lv_iconst (v := 2) hx hb dX11_goesBy_128 ic_2 ?_
          refine lv_icmp_ne (tgt := 160) hx hb dX11_goesBy_129 rfl (fun _ => ?_) (fun c9 => absurd c9 (iv_ne b50 ivk_2 (by decide)))
          refine lv_aload_n hx hb dX11_goesBy_160 rfl (lv_at hl 5 rfl) ?_
          refine lv_iload_n hx hb dX11_goesBy_161 rfl (lv_at hl 6 rfl) ?_
          refine lv_iload hx hb dX11_goesBy_162 (lv_at hl 4 rfl) ?_
          refine lv_iload hx hb dX11_goesBy_164 (lv_at hl 0 rfl) ?_
          refine lv_iload hx hb dX11_goesBy_166 (lv_at hl 3 rfl) ?_
          refine lv_irem hx hb dX11_goesBy_168 c5 ?_
          refine lv_topi (fun z59 _ => ?_)
          obtain ⟨hPc, hDc, hFc, hJn⟩ := cl_a (wc := [(m0, .inr (11, oX11 ra x0)), (ra 2, .inl (kI, 8, .inl q_told)), (ra 8, .inl (kI, 40, .inl q_from)), (ra 9, .inl (kI, 40, .inl q_to)), (ra 14, .inl (kI, 12, .inl q_reach))]) (wr := [(ra 3, .inl (kI, 24, .inl q_kind)), (ra 4, .inl (kI, 24, .inl q_salt)), (ra 10, .inl (kI, 6, .inl q_goal)), (ra 11, .inl (kI, 1019, .inl q_now))]) hP hD hS hA [4, 5, 6, 7, 8] [0, 1, 2, 3] rfl rfl (by decide +kernel)
          refine va_calli (va_runV (As := [.int p0, .int z1, .int z59]) (rest := []) ⟨hx, hb, hml, hown, hts⟩ (s11_branchAt l dC dI kB kI kJ kZ kC kS H.size m0 ra x0 q_told q_from q_to q_reach p0 z1 z59 (hX) (hq_told) (hq_from) (hq_to) (b2)) (cwV 3 hts gX11_goesBy_X11_branchAt rfl rfl rfl (by decide +kernel) ⟨Nat.le_of_ble_eq_true rfl, Nat.le_of_ble_eq_true rfl⟩) ⟨fun a U g mk q => by obtain ⟨q0, q1, qP, qE, qD⟩ := q; exact ⟨q0, q1, qP, kE_call qE, qD⟩, va_recv hK hP (ci := 11) (q0 := 4) rfl rfl, fun U hU hW => ⟨rfl, by rw [hU], by rw [hU]; exact hPc, kE_warm hW hE, hDc.weaken (fun _ _ _ _ => trivial)⟩⟩ rfl rfl hl.1 rfl (lv_room (Nat.le_of_ble_eq_true rfl)) dX11_goesBy_169 ⟨Nat.le_of_ble_eq_true rfl, Nat.le_of_ble_eq_true rfl⟩) hS (fun q _ h => hFc q h) hFc (fun r60 u t H locs ht hvm w61 hB hz1 hk1 hS => ?_)
          obtain ⟨hP1, hD1⟩ := hB
          try dsimp only at w61
          obtain ⟨hPa, hDa⟩ := hJn (w1 := [(m0, .inr (11, oX11 ra x0)), (ra 2, .inl (kI, 8, .inl q_told)), (ra 8, .inl (kI, 40, .inl q_from)), (ra 9, .inl (kI, 40, .inl q_to)), (ra 14, .inl (kI, 12, .inl q_reach))]) hk1 ht hP1 hD1
          clear hP hD hPc hDc hFc hJn hP1 hD1 hk1
          have hP : va_P (dC, dI) vwCl [(ra 3, .inl (kI, 24, .inl q_kind)), (ra 4, .inl (kI, 24, .inl q_salt)), (ra 10, .inl (kI, 6, .inl q_goal)), (ra 11, .inl (kI, 1019, .inl q_now)), (m0, .inr (11, oX11 ra x0)), (ra 2, .inl (kI, 8, .inl q_told)), (ra 8, .inl (kI, 40, .inl q_from)), (ra 9, .inl (kI, 40, .inl q_to)), (ra 14, .inl (kI, 12, .inl q_reach))] H := hPa
          have hD : va_D A [(ra 3, .inl (kI, 24, .inl q_kind)), (ra 4, .inl (kI, 24, .inl q_salt)), (ra 10, .inl (kI, 6, .inl q_goal)), (ra 11, .inl (kI, 1019, .inl q_now)), (m0, .inr (11, oX11 ra x0)), (ra 2, .inl (kI, 8, .inl q_told)), (ra 8, .inl (kI, 40, .inl q_from)), (ra 9, .inl (kI, 40, .inl q_to)), (ra 14, .inl (kI, 12, .inl q_reach))] := hDa
          clear hPa hDa
          refine W.widen (k := 0) (n := 0) (Nat.le_of_ble_eq_true rfl) (Nat.le_of_ble_eq_true rfl) ?_
          have hPD9 := cl_s (wc := [(m0, .inr (11, oX11 ra x0)), (ra 2, .inl (kI, 8, .inl q_told)), (ra 3, .inl (kI, 24, .inl q_kind)), (ra 4, .inl (kI, 24, .inl q_salt)), (ra 8, .inl (kI, 40, .inl q_from)), (ra 9, .inl (kI, 40, .inl q_to)), (ra 10, .inl (kI, 6, .inl q_goal)), (ra 11, .inl (kI, 1019, .inl q_now)), (ra 14, .inl (kI, 12, .inl q_reach))]) hP hD [4, 5, 0, 1, 6, 7, 2, 3, 8] rfl (by decide +kernel)
          have hP9 := hPD9.1
          have hD9 := hPD9.2
          exact W.iret (v := r60) hx hb hr (fun t ht hW => ⟨⟨r60, (), rfl, ⟨w61.1, w61.2⟩, q_now, hq_now, by rw [ht]; exact hP9, hD9⟩, hS.F ht⟩) hS.2.2 dX11_goesBy_172
      · have b62 : iv 0 0 z7 := iv_eqL c10 ivk_0
        refine lv_iconst (v := 0) hx hb dX11_goesBy_75 ic_0 ?_
        refine lv_goto (tgt := 124) hx hb dX11_goesBy_76 rfl ?_
        refine lv_istore (lv' := [(8, .int 0), (7, .int z8), (6, .int z7), (5, .int r3), (4, .int z1), (0, .ref m0), (1, .int p0), (2, .int p1), (3, .int p2)]) hx hb dX11_goesBy_124 hl (Nat.le_of_ble_eq_true rfl) rfl (fun ls hl => ?_)
        refine lv_iload hx hb dX11_goesBy_126 (lv_at hl 2 rfl) ?_
        refine lv_iconst (v := 2) hx hb dX11_goesBy_128 ic_2 ?_
        refine lv_icmp_ne (tgt := 160) hx hb dX11_goesBy_129 rfl (fun _ => ?_) (fun c9 => absurd c9 (iv_ne b62 ivk_2 (by decide)))
        refine lv_aload_n hx hb dX11_goesBy_160 rfl (lv_at hl 5 rfl) ?_
        refine lv_iload_n hx hb dX11_goesBy_161 rfl (lv_at hl 6 rfl) ?_
        refine lv_iload hx hb dX11_goesBy_162 (lv_at hl 4 rfl) ?_
        refine lv_iload hx hb dX11_goesBy_164 (lv_at hl 0 rfl) ?_
        refine lv_iload hx hb dX11_goesBy_166 (lv_at hl 3 rfl) ?_
        refine lv_irem hx hb dX11_goesBy_168 c5 ?_
        refine lv_topi (fun z63 _ => ?_)
        obtain ⟨hPc, hDc, hFc, hJn⟩ := cl_a (wc := [(m0, .inr (11, oX11 ra x0)), (ra 2, .inl (kI, 8, .inl q_told)), (ra 8, .inl (kI, 40, .inl q_from)), (ra 9, .inl (kI, 40, .inl q_to)), (ra 14, .inl (kI, 12, .inl q_reach))]) (wr := [(ra 3, .inl (kI, 24, .inl q_kind)), (ra 4, .inl (kI, 24, .inl q_salt)), (ra 10, .inl (kI, 6, .inl q_goal)), (ra 11, .inl (kI, 1019, .inl q_now))]) hP hD hS hA [4, 5, 6, 7, 8] [0, 1, 2, 3] rfl rfl (by decide +kernel)
        refine va_calli (va_runV (As := [.int p0, .int z1, .int z63]) (rest := []) ⟨hx, hb, hml, hown, hts⟩ (s11_branchAt l dC dI kB kI kJ kZ kC kS H.size m0 ra x0 q_told q_from q_to q_reach p0 z1 z63 (hX) (hq_told) (hq_from) (hq_to) (b2)) (cwV 3 hts gX11_goesBy_X11_branchAt rfl rfl rfl (by decide +kernel) ⟨Nat.le_of_ble_eq_true rfl, Nat.le_of_ble_eq_true rfl⟩) ⟨fun a U g mk q => by obtain ⟨q0, q1, qP, qE, qD⟩ := q; exact ⟨q0, q1, qP, kE_call qE, qD⟩, va_recv hK hP (ci := 11) (q0 := 4) rfl rfl, fun U hU hW => ⟨rfl, by rw [hU], by rw [hU]; exact hPc, kE_warm hW hE, hDc.weaken (fun _ _ _ _ => trivial)⟩⟩ rfl rfl hl.1 rfl (lv_room (Nat.le_of_ble_eq_true rfl)) dX11_goesBy_169 ⟨Nat.le_of_ble_eq_true rfl, Nat.le_of_ble_eq_true rfl⟩) hS (fun q _ h => hFc q h) hFc (fun r64 u t H locs ht hvm w65 hB hz1 hk1 hS => ?_)
        obtain ⟨hP1, hD1⟩ := hB
        try dsimp only at w65
        obtain ⟨hPa, hDa⟩ := hJn (w1 := [(m0, .inr (11, oX11 ra x0)), (ra 2, .inl (kI, 8, .inl q_told)), (ra 8, .inl (kI, 40, .inl q_from)), (ra 9, .inl (kI, 40, .inl q_to)), (ra 14, .inl (kI, 12, .inl q_reach))]) hk1 ht hP1 hD1
        clear hP hD hPc hDc hFc hJn hP1 hD1 hk1
        have hP : va_P (dC, dI) vwCl [(ra 3, .inl (kI, 24, .inl q_kind)), (ra 4, .inl (kI, 24, .inl q_salt)), (ra 10, .inl (kI, 6, .inl q_goal)), (ra 11, .inl (kI, 1019, .inl q_now)), (m0, .inr (11, oX11 ra x0)), (ra 2, .inl (kI, 8, .inl q_told)), (ra 8, .inl (kI, 40, .inl q_from)), (ra 9, .inl (kI, 40, .inl q_to)), (ra 14, .inl (kI, 12, .inl q_reach))] H := hPa
        have hD : va_D A [(ra 3, .inl (kI, 24, .inl q_kind)), (ra 4, .inl (kI, 24, .inl q_salt)), (ra 10, .inl (kI, 6, .inl q_goal)), (ra 11, .inl (kI, 1019, .inl q_now)), (m0, .inr (11, oX11 ra x0)), (ra 2, .inl (kI, 8, .inl q_told)), (ra 8, .inl (kI, 40, .inl q_from)), (ra 9, .inl (kI, 40, .inl q_to)), (ra 14, .inl (kI, 12, .inl q_reach))] := hDa
        clear hPa hDa
        refine W.widen (k := 0) (n := 0) (Nat.le_of_ble_eq_true rfl) (Nat.le_of_ble_eq_true rfl) ?_
        have hPD9 := cl_s (wc := [(m0, .inr (11, oX11 ra x0)), (ra 2, .inl (kI, 8, .inl q_told)), (ra 3, .inl (kI, 24, .inl q_kind)), (ra 4, .inl (kI, 24, .inl q_salt)), (ra 8, .inl (kI, 40, .inl q_from)), (ra 9, .inl (kI, 40, .inl q_to)), (ra 10, .inl (kI, 6, .inl q_goal)), (ra 11, .inl (kI, 1019, .inl q_now)), (ra 14, .inl (kI, 12, .inl q_reach))]) hP hD [4, 5, 0, 1, 6, 7, 2, 3, 8] rfl (by decide +kernel)
        have hP9 := hPD9.1
        have hD9 := hPD9.2
        exact W.iret (v := r64) hx hb hr (fun t ht hW => ⟨⟨r64, (), rfl, ⟨w65.1, w65.2⟩, q_now, hq_now, by rw [ht]; exact hP9, hD9⟩, hS.F ht⟩) hS.2.2 dX11_goesBy_172
    · have b66 : iv 0 11 (x0 11) := iv_eqR c6 hp0
      refine lv_aload_n hx hb dX11_goesBy_32 rfl (lv_at hl 2 rfl) ?_
      refine va_get (D := (dC, dI)) (ci := 11) (v := .int (x0 12)) (C := RX11) (T := TX11) (N := 61) hx hb hts hin11 hown hK hP 4 rfl rfl 27 (Nat.le_of_ble_eq_true rfl) hw_6 (fun _ h9 => h9) rfl dX11_goesBy_33 ?_
      refine lv_goto (tgt := 45) hx hb dX11_goesBy_36 rfl ?_
      refine lv_istore (lv' := [(6, .int (x0 12)), (5, .int r3), (4, .int z1), (0, .ref m0), (1, .int p0), (2, .int p1), (3, .int p2)]) hx hb dX11_goesBy_45 hl (Nat.le_of_ble_eq_true rfl) rfl (fun ls hl => ?_)
      refine lv_iload_n hx hb dX11_goesBy_47 rfl (lv_at hl 4 rfl) ?_
      refine lv_aload_n hx hb dX11_goesBy_48 rfl (lv_at hl 3 rfl) ?_
      refine va_get (D := (dC, dI)) (ci := 11) (v := .int (x0 11)) (C := RX11) (T := TX11) (N := 61) hx hb hts hin11 hown hK hP 4 rfl rfl 26 (Nat.le_of_ble_eq_true rfl) hw_1 (fun _ h9 => h9) rfl dX11_goesBy_49 ?_
      refine lv_icmp_ne (tgt := 62) hx hb dX11_goesBy_52 rfl (fun c9 => absurd (c6) c9) (fun _ => ?_)
      refine lv_aload_n hx hb dX11_goesBy_55 rfl (lv_at hl 3 rfl) ?_
      refine va_get (D := (dC, dI)) (ci := 11) (v := .int (x0 13)) (C := RX11) (T := TX11) (N := 61) hx hb hts hin11 hown hK hP 4 rfl rfl 28 (Nat.le_of_ble_eq_true rfl) hw_7 (fun _ h9 => h9) rfl dX11_goesBy_56 ?_
      refine lv_goto (tgt := 68) hx hb dX11_goesBy_59 rfl ?_
      refine lv_istore (lv' := [(7, .int (x0 13)), (6, .int (x0 12)), (5, .int r3), (4, .int z1), (0, .ref m0), (1, .int p0), (2, .int p1), (3, .int p2)]) hx hb dX11_goesBy_68 hl (Nat.le_of_ble_eq_true rfl) rfl (fun ls hl => ?_)
      refine lv_iload hx hb dX11_goesBy_70 (lv_at hl 1 rfl) ?_
      refine lv_if_ne (tgt := 79) hx hb dX11_goesBy_72 rfl (fun c67 => ?_) (fun c67 => ?_)
      · refine lv_iload hx hb dX11_goesBy_79 (lv_at hl 1 rfl) ?_
        refine lv_iconst (v := 1) hx hb dX11_goesBy_81 ic_1 ?_
        refine lv_icmp_ne (tgt := 100) hx hb dX11_goesBy_82 rfl (fun c68 => ?_) (fun c68 => ?_)
        · refine lv_iload hx hb dX11_goesBy_100 (lv_at hl 1 rfl) ?_
          refine lv_iconst (v := 3) hx hb dX11_goesBy_102 ic_3 ?_
          refine lv_icmp_ne (tgt := 116) hx hb dX11_goesBy_103 rfl (fun c69 => ?_) (fun c69 => ?_)
          · refine lv_aload_n hx hb dX11_goesBy_116 rfl (lv_at hl 4 rfl) ?_
            refine va_get (D := (dC, dI)) (ci := 11) (v := .ref (ra 11)) (C := RX11) (T := TX11) (N := 61) hx hb hts hin11 hown hK hP 4 rfl rfl 12 (Nat.le_of_ble_eq_true rfl) hw_4 (fun _ h9 => h9) rfl dX11_goesBy_117 ?_
            refine lv_iconst (v := 0) hx hb dX11_goesBy_120 ic_0 ?_
            refine lv_iload_n hx hb dX11_goesBy_121 rfl (lv_at hl 5 rfl) ?_
            refine lv_iadd hx hb dX11_goesBy_122 ?_
            refine iv_top (a := 0) (b := 11) (iv_add ivk_0 hp0 (by decide) (by decide) (by decide) (by decide)) (fun z70 b71 => ?_)
            refine va_iald hx hb hK hP 3 1 rfl rfl (iv_in b71 (by decide) (by decide)) dX11_goesBy_123 ?_
            refine iv_top (a := 0) (b := 59) (now_t hq_now b71 (by decide) (by decide)) (fun z72 b73 => ?_)
            refine lv_istore (lv' := [(8, .int z72), (7, .int (x0 13)), (6, .int (x0 12)), (5, .int r3), (4, .int z1), (0, .ref m0), (1, .int p0), (2, .int p1), (3, .int p2)]) hx hb dX11_goesBy_124 hl (Nat.le_of_ble_eq_true rfl) rfl (fun ls hl => ?_)
            refine lv_iload hx hb dX11_goesBy_126 (lv_at hl 2 rfl) ?_
            refine lv_iconst (v := 2) hx hb dX11_goesBy_128 ic_2 ?_
            refine lv_icmp_ne (tgt := 160) hx hb dX11_goesBy_129 rfl (fun c74 => ?_) (fun c74 => ?_)
            · refine lv_aload_n hx hb dX11_goesBy_160 rfl (lv_at hl 5 rfl) ?_
              refine lv_iload_n hx hb dX11_goesBy_161 rfl (lv_at hl 6 rfl) ?_
              refine lv_iload hx hb dX11_goesBy_162 (lv_at hl 4 rfl) ?_
              refine lv_iload hx hb dX11_goesBy_164 (lv_at hl 0 rfl) ?_
              refine lv_iload hx hb dX11_goesBy_166 (lv_at hl 3 rfl) ?_
              refine lv_irem hx hb dX11_goesBy_168 c5 ?_
              refine lv_topi (fun z75 _ => ?_)
              obtain ⟨hPc, hDc, hFc, hJn⟩ := cl_a (wc := [(m0, .inr (11, oX11 ra x0)), (ra 2, .inl (kI, 8, .inl q_told)), (ra 8, .inl (kI, 40, .inl q_from)), (ra 9, .inl (kI, 40, .inl q_to)), (ra 14, .inl (kI, 12, .inl q_reach))]) (wr := [(ra 3, .inl (kI, 24, .inl q_kind)), (ra 4, .inl (kI, 24, .inl q_salt)), (ra 10, .inl (kI, 6, .inl q_goal)), (ra 11, .inl (kI, 1019, .inl q_now))]) hP hD hS hA [4, 5, 6, 7, 8] [0, 1, 2, 3] rfl rfl (by decide +kernel)
              refine va_calli (va_runV (As := [.int p0, .int z1, .int z75]) (rest := []) ⟨hx, hb, hml, hown, hts⟩ (s11_branchAt l dC dI kB kI kJ kZ kC kS H.size m0 ra x0 q_told q_from q_to q_reach p0 z1 z75 (hX) (hq_told) (hq_from) (hq_to) (b2)) (cwV 3 hts gX11_goesBy_X11_branchAt rfl rfl rfl (by decide +kernel) ⟨Nat.le_of_ble_eq_true rfl, Nat.le_of_ble_eq_true rfl⟩) ⟨fun a U g mk q => by obtain ⟨q0, q1, qP, qE, qD⟩ := q; exact ⟨q0, q1, qP, kE_call qE, qD⟩, va_recv hK hP (ci := 11) (q0 := 4) rfl rfl, fun U hU hW => ⟨rfl, by rw [hU], by rw [hU]; exact hPc, kE_warm hW hE, hDc.weaken (fun _ _ _ _ => trivial)⟩⟩ rfl rfl hl.1 rfl (lv_room (Nat.le_of_ble_eq_true rfl)) dX11_goesBy_169 ⟨Nat.le_of_ble_eq_true rfl, Nat.le_of_ble_eq_true rfl⟩) hS (fun q _ h => hFc q h) hFc (fun r76 u t H locs ht hvm w77 hB hz1 hk1 hS => ?_)
              obtain ⟨hP1, hD1⟩ := hB
              try dsimp only at w77
              obtain ⟨hPa, hDa⟩ := hJn (w1 := [(m0, .inr (11, oX11 ra x0)), (ra 2, .inl (kI, 8, .inl q_told)), (ra 8, .inl (kI, 40, .inl q_from)), (ra 9, .inl (kI, 40, .inl q_to)), (ra 14, .inl (kI, 12, .inl q_reach))]) hk1 ht hP1 hD1
              clear hP hD hPc hDc hFc hJn hP1 hD1 hk1
              have hP : va_P (dC, dI) vwCl [(ra 3, .inl (kI, 24, .inl q_kind)), (ra 4, .inl (kI, 24, .inl q_salt)), (ra 10, .inl (kI, 6, .inl q_goal)), (ra 11, .inl (kI, 1019, .inl q_now)), (m0, .inr (11, oX11 ra x0)), (ra 2, .inl (kI, 8, .inl q_told)), (ra 8, .inl (kI, 40, .inl q_from)), (ra 9, .inl (kI, 40, .inl q_to)), (ra 14, .inl (kI, 12, .inl q_reach))] H := hPa
              have hD : va_D A [(ra 3, .inl (kI, 24, .inl q_kind)), (ra 4, .inl (kI, 24, .inl q_salt)), (ra 10, .inl (kI, 6, .inl q_goal)), (ra 11, .inl (kI, 1019, .inl q_now)), (m0, .inr (11, oX11 ra x0)), (ra 2, .inl (kI, 8, .inl q_told)), (ra 8, .inl (kI, 40, .inl q_from)), (ra 9, .inl (kI, 40, .inl q_to)), (ra 14, .inl (kI, 12, .inl q_reach))] := hDa
              clear hPa hDa
              refine W.widen (k := 0) (n := 0) (Nat.le_of_ble_eq_true rfl) (Nat.le_of_ble_eq_true rfl) ?_
              have hPD9 := cl_s (wc := [(m0, .inr (11, oX11 ra x0)), (ra 2, .inl (kI, 8, .inl q_told)), (ra 3, .inl (kI, 24, .inl q_kind)), (ra 4, .inl (kI, 24, .inl q_salt)), (ra 8, .inl (kI, 40, .inl q_from)), (ra 9, .inl (kI, 40, .inl q_to)), (ra 10, .inl (kI, 6, .inl q_goal)), (ra 11, .inl (kI, 1019, .inl q_now)), (ra 14, .inl (kI, 12, .inl q_reach))]) hP hD [4, 5, 0, 1, 6, 7, 2, 3, 8] rfl (by decide +kernel)
              have hP9 := hPD9.1
              have hD9 := hPD9.2
              exact W.iret (v := r76) hx hb hr (fun t ht hW => ⟨⟨r76, (), rfl, ⟨w77.1, w77.2⟩, q_now, hq_now, by rw [ht]; exact hP9, hD9⟩, hS.F ht⟩) hS.2.2 dX11_goesBy_172
            · have b78 : iv 2 2 (x0 12) := iv_eqL c74 ivk_2
              refine lv_aload_n hx hb dX11_goesBy_132 rfl (lv_at hl 5 rfl) ?_
              refine va_get (D := (dC, dI)) (ci := 11) (v := .int (x0 14)) (C := RX11) (T := TX11) (N := 61) hx hb hts hin11 hown hK hP 4 rfl rfl 29 (Nat.le_of_ble_eq_true rfl) hw_5 (fun _ h9 => h9) rfl dX11_goesBy_133 ?_
              refine lv_if_eq (tgt := 160) hx hb dX11_goesBy_136 rfl (fun c79 => ?_) (fun c79 => ?_)
              · have b80 : iv 0 0 (x0 14) := iv_eqL c79 ivk_0
                refine lv_aload_n hx hb dX11_goesBy_160 rfl (lv_at hl 5 rfl) ?_
                refine lv_iload_n hx hb dX11_goesBy_161 rfl (lv_at hl 6 rfl) ?_
                refine lv_iload hx hb dX11_goesBy_162 (lv_at hl 4 rfl) ?_
                refine lv_iload hx hb dX11_goesBy_164 (lv_at hl 0 rfl) ?_
                refine lv_iload hx hb dX11_goesBy_166 (lv_at hl 3 rfl) ?_
                refine lv_irem hx hb dX11_goesBy_168 c5 ?_
                refine lv_topi (fun z81 _ => ?_)
                obtain ⟨hPc, hDc, hFc, hJn⟩ := cl_a (wc := [(m0, .inr (11, oX11 ra x0)), (ra 2, .inl (kI, 8, .inl q_told)), (ra 8, .inl (kI, 40, .inl q_from)), (ra 9, .inl (kI, 40, .inl q_to)), (ra 14, .inl (kI, 12, .inl q_reach))]) (wr := [(ra 3, .inl (kI, 24, .inl q_kind)), (ra 4, .inl (kI, 24, .inl q_salt)), (ra 10, .inl (kI, 6, .inl q_goal)), (ra 11, .inl (kI, 1019, .inl q_now))]) hP hD hS hA [4, 5, 6, 7, 8] [0, 1, 2, 3] rfl rfl (by decide +kernel)
                refine va_calli (va_runV (As := [.int p0, .int z1, .int z81]) (rest := []) ⟨hx, hb, hml, hown, hts⟩ (s11_branchAt l dC dI kB kI kJ kZ kC kS H.size m0 ra x0 q_told q_from q_to q_reach p0 z1 z81 (hX) (hq_told) (hq_from) (hq_to) (b2)) (cwV 3 hts gX11_goesBy_X11_branchAt rfl rfl rfl (by decide +kernel) ⟨Nat.le_of_ble_eq_true rfl, Nat.le_of_ble_eq_true rfl⟩) ⟨fun a U g mk q => by obtain ⟨q0, q1, qP, qE, qD⟩ := q; exact ⟨q0, q1, qP, kE_call qE, qD⟩, va_recv hK hP (ci := 11) (q0 := 4) rfl rfl, fun U hU hW => ⟨rfl, by rw [hU], by rw [hU]; exact hPc, kE_warm hW hE, hDc.weaken (fun _ _ _ _ => trivial)⟩⟩ rfl rfl hl.1 rfl (lv_room (Nat.le_of_ble_eq_true rfl)) dX11_goesBy_169 ⟨Nat.le_of_ble_eq_true rfl, Nat.le_of_ble_eq_true rfl⟩) hS (fun q _ h => hFc q h) hFc (fun r82 u t H locs ht hvm w83 hB hz1 hk1 hS => ?_)
                obtain ⟨hP1, hD1⟩ := hB
                try dsimp only at w83
                obtain ⟨hPa, hDa⟩ := hJn (w1 := [(m0, .inr (11, oX11 ra x0)), (ra 2, .inl (kI, 8, .inl q_told)), (ra 8, .inl (kI, 40, .inl q_from)), (ra 9, .inl (kI, 40, .inl q_to)), (ra 14, .inl (kI, 12, .inl q_reach))]) hk1 ht hP1 hD1
                clear hP hD hPc hDc hFc hJn hP1 hD1 hk1
                have hP : va_P (dC, dI) vwCl [(ra 3, .inl (kI, 24, .inl q_kind)), (ra 4, .inl (kI, 24, .inl q_salt)), (ra 10, .inl (kI, 6, .inl q_goal)), (ra 11, .inl (kI, 1019, .inl q_now)), (m0, .inr (11, oX11 ra x0)), (ra 2, .inl (kI, 8, .inl q_told)), (ra 8, .inl (kI, 40, .inl q_from)), (ra 9, .inl (kI, 40, .inl q_to)), (ra 14, .inl (kI, 12, .inl q_reach))] H := hPa
                have hD : va_D A [(ra 3, .inl (kI, 24, .inl q_kind)), (ra 4, .inl (kI, 24, .inl q_salt)), (ra 10, .inl (kI, 6, .inl q_goal)), (ra 11, .inl (kI, 1019, .inl q_now)), (m0, .inr (11, oX11 ra x0)), (ra 2, .inl (kI, 8, .inl q_told)), (ra 8, .inl (kI, 40, .inl q_from)), (ra 9, .inl (kI, 40, .inl q_to)), (ra 14, .inl (kI, 12, .inl q_reach))] := hDa
                clear hPa hDa
                refine W.widen (k := 0) (n := 0) (Nat.le_of_ble_eq_true rfl) (Nat.le_of_ble_eq_true rfl) ?_
                have hPD9 := cl_s (wc := [(m0, .inr (11, oX11 ra x0)), (ra 2, .inl (kI, 8, .inl q_told)), (ra 3, .inl (kI, 24, .inl q_kind)), (ra 4, .inl (kI, 24, .inl q_salt)), (ra 8, .inl (kI, 40, .inl q_from)), (ra 9, .inl (kI, 40, .inl q_to)), (ra 10, .inl (kI, 6, .inl q_goal)), (ra 11, .inl (kI, 1019, .inl q_now)), (ra 14, .inl (kI, 12, .inl q_reach))]) hP hD [4, 5, 0, 1, 6, 7, 2, 3, 8] rfl (by decide +kernel)
                have hP9 := hPD9.1
                have hD9 := hPD9.2
                exact W.iret (v := r82) hx hb hr (fun t ht hW => ⟨⟨r82, (), rfl, ⟨w83.1, w83.2⟩, q_now, hq_now, by rw [ht]; exact hP9, hD9⟩, hS.F ht⟩) hS.2.2 dX11_goesBy_172
              · refine lv_aload_n hx hb dX11_goesBy_139 rfl (lv_at hl 5 rfl) ?_
                refine va_get (D := (dC, dI)) (ci := 11) (v := .ref (ra 11)) (C := RX11) (T := TX11) (N := 61) hx hb hts hin11 hown hK hP 4 rfl rfl 12 (Nat.le_of_ble_eq_true rfl) hw_4 (fun _ h9 => h9) rfl dX11_goesBy_140 ?_
                refine lv_iconst (v := 0) hx hb dX11_goesBy_143 ic_0 ?_
                refine lv_iload_n hx hb dX11_goesBy_144 rfl (lv_at hl 6 rfl) ?_
                refine lv_iadd hx hb dX11_goesBy_145 ?_
                refine iv_top (a := 0) (b := 11) (iv_add ivk_0 hp0 (by decide) (by decide) (by decide) (by decide)) (fun z84 b85 => ?_)
                refine lv_aload_n hx hb dX11_goesBy_146 rfl (lv_at hl 5 rfl) ?_
                refine va_get (D := (dC, dI)) (ci := 11) (v := .ref (ra 11)) (C := RX11) (T := TX11) (N := 61) hx hb hts hin11 hown hK hP 4 rfl rfl 12 (Nat.le_of_ble_eq_true rfl) hw_4 (fun _ h9 => h9) rfl dX11_goesBy_147 ?_
                refine lv_iconst (v := 0) hx hb dX11_goesBy_150 ic_0 ?_
                refine lv_iload_n hx hb dX11_goesBy_151 rfl (lv_at hl 6 rfl) ?_
                refine lv_iadd hx hb dX11_goesBy_152 ?_
                refine iv_top (a := 0) (b := 11) (iv_add ivk_0 hp0 (by decide) (by decide) (by decide) (by decide)) (fun z86 b87 => ?_)
                refine va_iald hx hb hK hP 3 1 rfl rfl (iv_in b87 (by decide) (by decide)) dX11_goesBy_153 ?_
                refine iv_top (a := 0) (b := 59) (now_t hq_now b87 (by decide) (by decide)) (fun z88 b89 => ?_)
                refine lv_iconst (v := 1) hx hb dX11_goesBy_154 ic_1 ?_
                refine lv_iadd hx hb dX11_goesBy_155 ?_
                refine iv_top (a := 1) (b := 60) (iv_add b89 ivk_1 (by decide) (by decide) (by decide) (by decide)) (fun z90 b91 => ?_)
                refine lv_bipush (v := 60) hx hb dX11_goesBy_156 bp_60 ?_
                refine lv_irem hx hb dX11_goesBy_158 (by decide) ?_
                refine iv_top (a := 0) (b := 59) (iv_rem b91 ivk_60 (by decide) (by decide) (by decide) (by decide)) (fun z92 b93 => ?_)
                refine va_iast hx hb hK hP hD hS 3 1 rfl rfl (iv_in b85 (by decide) (by decide)) dX11_goesBy_159 (fun H locs hPa hDa hS => ?_)
                clear hP hD
                have hP : va_P (dC, dI) vwCl [(ra 3, .inl (kI, 24, .inl q_kind)), (ra 4, .inl (kI, 24, .inl q_salt)), (ra 10, .inl (kI, 6, .inl q_goal)), (ra 11, .inl (kI, 1019, .inl (upd q_now z84.toNatClampNeg z92))), (m0, .inr (11, oX11 ra x0)), (ra 2, .inl (kI, 8, .inl q_told)), (ra 8, .inl (kI, 40, .inl q_from)), (ra 9, .inl (kI, 40, .inl q_to)), (ra 14, .inl (kI, 12, .inl q_reach))] H := hPa
                have hD : va_D A [(ra 3, .inl (kI, 24, .inl q_kind)), (ra 4, .inl (kI, 24, .inl q_salt)), (ra 10, .inl (kI, 6, .inl q_goal)), (ra 11, .inl (kI, 1019, .inl (upd q_now z84.toNatClampNeg z92))), (m0, .inr (11, oX11 ra x0)), (ra 2, .inl (kI, 8, .inl q_told)), (ra 8, .inl (kI, 40, .inl q_from)), (ra 9, .inl (kI, 40, .inl q_to)), (ra 14, .inl (kI, 12, .inl q_reach))] := hDa
                clear hPa hDa
                have hf95 : fI lNow hNow (upd q_now z84.toNatClampNeg z92) := fI_u hq_now (k := z84.toNatClampNeg) (now_pt b85 (by decide) (by decide) b93)
                generalize (upd q_now z84.toNatClampNeg z92) = f94 at hP hD hf95
                refine lv_aload_n hx hb dX11_goesBy_160 rfl (lv_at hl 5 rfl) ?_
                refine lv_iload_n hx hb dX11_goesBy_161 rfl (lv_at hl 6 rfl) ?_
                refine lv_iload hx hb dX11_goesBy_162 (lv_at hl 4 rfl) ?_
                refine lv_iload hx hb dX11_goesBy_164 (lv_at hl 0 rfl) ?_
                refine lv_iload hx hb dX11_goesBy_166 (lv_at hl 3 rfl) ?_
                refine lv_irem hx hb dX11_goesBy_168 c5 ?_
                refine lv_topi (fun z96 _ => ?_)
                obtain ⟨hPc, hDc, hFc, hJn⟩ := cl_a (wc := [(m0, .inr (11, oX11 ra x0)), (ra 2, .inl (kI, 8, .inl q_told)), (ra 8, .inl (kI, 40, .inl q_from)), (ra 9, .inl (kI, 40, .inl q_to)), (ra 14, .inl (kI, 12, .inl q_reach))]) (wr := [(ra 3, .inl (kI, 24, .inl q_kind)), (ra 4, .inl (kI, 24, .inl q_salt)), (ra 10, .inl (kI, 6, .inl q_goal)), (ra 11, .inl (kI, 1019, .inl f94))]) hP hD hS hA [4, 5, 6, 7, 8] [0, 1, 2, 3] rfl rfl (by decide +kernel)
                refine va_calli (va_runV (As := [.int p0, .int z1, .int z96]) (rest := []) ⟨hx, hb, hml, hown, hts⟩ (s11_branchAt l dC dI kB kI kJ kZ kC kS H.size m0 ra x0 q_told q_from q_to q_reach p0 z1 z96 (hX) (hq_told) (hq_from) (hq_to) (b2)) (cwV 3 hts gX11_goesBy_X11_branchAt rfl rfl rfl (by decide +kernel) ⟨Nat.le_of_ble_eq_true rfl, Nat.le_of_ble_eq_true rfl⟩) ⟨fun a U g mk q => by obtain ⟨q0, q1, qP, qE, qD⟩ := q; exact ⟨q0, q1, qP, kE_call qE, qD⟩, va_recv hK hP (ci := 11) (q0 := 4) rfl rfl, fun U hU hW => ⟨rfl, by rw [hU], by rw [hU]; exact hPc, kE_warm hW hE, hDc.weaken (fun _ _ _ _ => trivial)⟩⟩ rfl rfl hl.1 rfl (lv_room (Nat.le_of_ble_eq_true rfl)) dX11_goesBy_169 ⟨Nat.le_of_ble_eq_true rfl, Nat.le_of_ble_eq_true rfl⟩) hS (fun q _ h => hFc q h) hFc (fun r97 u t H locs ht hvm w98 hB hz1 hk1 hS => ?_)
                obtain ⟨hP1, hD1⟩ := hB
                try dsimp only at w98
                obtain ⟨hPa, hDa⟩ := hJn (w1 := [(m0, .inr (11, oX11 ra x0)), (ra 2, .inl (kI, 8, .inl q_told)), (ra 8, .inl (kI, 40, .inl q_from)), (ra 9, .inl (kI, 40, .inl q_to)), (ra 14, .inl (kI, 12, .inl q_reach))]) hk1 ht hP1 hD1
                clear hP hD hPc hDc hFc hJn hP1 hD1 hk1
                have hP : va_P (dC, dI) vwCl [(ra 3, .inl (kI, 24, .inl q_kind)), (ra 4, .inl (kI, 24, .inl q_salt)), (ra 10, .inl (kI, 6, .inl q_goal)), (ra 11, .inl (kI, 1019, .inl f94)), (m0, .inr (11, oX11 ra x0)), (ra 2, .inl (kI, 8, .inl q_told)), (ra 8, .inl (kI, 40, .inl q_from)), (ra 9, .inl (kI, 40, .inl q_to)), (ra 14, .inl (kI, 12, .inl q_reach))] H := hPa
                have hD : va_D A [(ra 3, .inl (kI, 24, .inl q_kind)), (ra 4, .inl (kI, 24, .inl q_salt)), (ra 10, .inl (kI, 6, .inl q_goal)), (ra 11, .inl (kI, 1019, .inl f94)), (m0, .inr (11, oX11 ra x0)), (ra 2, .inl (kI, 8, .inl q_told)), (ra 8, .inl (kI, 40, .inl q_from)), (ra 9, .inl (kI, 40, .inl q_to)), (ra 14, .inl (kI, 12, .inl q_reach))] := hDa
                clear hPa hDa
                refine W.widen (k := 0) (n := 0) (Nat.le_of_ble_eq_true rfl) (Nat.le_of_ble_eq_true rfl) ?_
                have hPD9 := cl_s (wc := [(m0, .inr (11, oX11 ra x0)), (ra 2, .inl (kI, 8, .inl q_told)), (ra 3, .inl (kI, 24, .inl q_kind)), (ra 4, .inl (kI, 24, .inl q_salt)), (ra 8, .inl (kI, 40, .inl q_from)), (ra 9, .inl (kI, 40, .inl q_to)), (ra 10, .inl (kI, 6, .inl q_goal)), (ra 11, .inl (kI, 1019, .inl f94)), (ra 14, .inl (kI, 12, .inl q_reach))]) hP hD [4, 5, 0, 1, 6, 7, 2, 3, 8] rfl (by decide +kernel)
                have hP9 := hPD9.1
                have hD9 := hPD9.2
                exact W.iret (v := r97) hx hb hr (fun t ht hW => ⟨⟨r97, (), rfl, ⟨w98.1, w98.2⟩, f94, hf95, by rw [ht]; exact hP9, hD9⟩, hS.F ht⟩) hS.2.2 dX11_goesBy_172
          · have b99 : iv 3 3 (x0 12) := iv_eqL c69 ivk_3
            refine lv_bipush (v := 13) hx hb dX11_goesBy_106 bp_13 ?_
            refine lv_iload_n hx hb dX11_goesBy_108 rfl (lv_at hl 7 rfl) ?_
            refine lv_imul hx hb dX11_goesBy_109 ?_
            refine iv_top (a := 0) (b := 26) (iv_mul ivk_13 hp2 (by decide) (by decide) (by decide) (by decide) (by decide)) (fun z100 b101 => ?_)
            refine lv_iload hx hb dX11_goesBy_110 (lv_at hl 0 rfl) ?_
            refine lv_iadd hx hb dX11_goesBy_112 ?_
            refine iv_top (a := 0) (b := 41) (iv_add b101 (hX 13 : iv 0 15 (x0 13)) (by decide) (by decide) (by decide) (by decide)) (fun z102 b103 => ?_)
            refine lv_goto (tgt := 124) hx hb dX11_goesBy_113 rfl ?_
            refine lv_istore (lv' := [(8, .int z102), (7, .int (x0 13)), (6, .int (x0 12)), (5, .int r3), (4, .int z1), (0, .ref m0), (1, .int p0), (2, .int p1), (3, .int p2)]) hx hb dX11_goesBy_124 hl (Nat.le_of_ble_eq_true rfl) rfl (fun ls hl => ?_)
            refine lv_iload hx hb dX11_goesBy_126 (lv_at hl 2 rfl) ?_
            refine lv_iconst (v := 2) hx hb dX11_goesBy_128 ic_2 ?_
            refine lv_icmp_ne (tgt := 160) hx hb dX11_goesBy_129 rfl (fun _ => ?_) (fun c9 => absurd c9 (iv_ne b99 ivk_2 (by decide)))
            refine lv_aload_n hx hb dX11_goesBy_160 rfl (lv_at hl 5 rfl) ?_
            refine lv_iload_n hx hb dX11_goesBy_161 rfl (lv_at hl 6 rfl) ?_
            refine lv_iload hx hb dX11_goesBy_162 (lv_at hl 4 rfl) ?_
            refine lv_iload hx hb dX11_goesBy_164 (lv_at hl 0 rfl) ?_
            refine lv_iload hx hb dX11_goesBy_166 (lv_at hl 3 rfl) ?_
            refine lv_irem hx hb dX11_goesBy_168 c5 ?_
            refine lv_topi (fun z104 _ => ?_)
            obtain ⟨hPc, hDc, hFc, hJn⟩ := cl_a (wc := [(m0, .inr (11, oX11 ra x0)), (ra 2, .inl (kI, 8, .inl q_told)), (ra 8, .inl (kI, 40, .inl q_from)), (ra 9, .inl (kI, 40, .inl q_to)), (ra 14, .inl (kI, 12, .inl q_reach))]) (wr := [(ra 3, .inl (kI, 24, .inl q_kind)), (ra 4, .inl (kI, 24, .inl q_salt)), (ra 10, .inl (kI, 6, .inl q_goal)), (ra 11, .inl (kI, 1019, .inl q_now))]) hP hD hS hA [4, 5, 6, 7, 8] [0, 1, 2, 3] rfl rfl (by decide +kernel)
            refine va_calli (va_runV (As := [.int p0, .int z1, .int z104]) (rest := []) ⟨hx, hb, hml, hown, hts⟩ (s11_branchAt l dC dI kB kI kJ kZ kC kS H.size m0 ra x0 q_told q_from q_to q_reach p0 z1 z104 (hX) (hq_told) (hq_from) (hq_to) (b2)) (cwV 3 hts gX11_goesBy_X11_branchAt rfl rfl rfl (by decide +kernel) ⟨Nat.le_of_ble_eq_true rfl, Nat.le_of_ble_eq_true rfl⟩) ⟨fun a U g mk q => by obtain ⟨q0, q1, qP, qE, qD⟩ := q; exact ⟨q0, q1, qP, kE_call qE, qD⟩, va_recv hK hP (ci := 11) (q0 := 4) rfl rfl, fun U hU hW => ⟨rfl, by rw [hU], by rw [hU]; exact hPc, kE_warm hW hE, hDc.weaken (fun _ _ _ _ => trivial)⟩⟩ rfl rfl hl.1 rfl (lv_room (Nat.le_of_ble_eq_true rfl)) dX11_goesBy_169 ⟨Nat.le_of_ble_eq_true rfl, Nat.le_of_ble_eq_true rfl⟩) hS (fun q _ h => hFc q h) hFc (fun r105 u t H locs ht hvm w106 hB hz1 hk1 hS => ?_)
            obtain ⟨hP1, hD1⟩ := hB
            try dsimp only at w106
            obtain ⟨hPa, hDa⟩ := hJn (w1 := [(m0, .inr (11, oX11 ra x0)), (ra 2, .inl (kI, 8, .inl q_told)), (ra 8, .inl (kI, 40, .inl q_from)), (ra 9, .inl (kI, 40, .inl q_to)), (ra 14, .inl (kI, 12, .inl q_reach))]) hk1 ht hP1 hD1
            clear hP hD hPc hDc hFc hJn hP1 hD1 hk1
            have hP : va_P (dC, dI) vwCl [(ra 3, .inl (kI, 24, .inl q_kind)), (ra 4, .inl (kI, 24, .inl q_salt)), (ra 10, .inl (kI, 6, .inl q_goal)), (ra 11, .inl (kI, 1019, .inl q_now)), (m0, .inr (11, oX11 ra x0)), (ra 2, .inl (kI, 8, .inl q_told)), (ra 8, .inl (kI, 40, .inl q_from)), (ra 9, .inl (kI, 40, .inl q_to)), (ra 14, .inl (kI, 12, .inl q_reach))] H := hPa
            have hD : va_D A [(ra 3, .inl (kI, 24, .inl q_kind)), (ra 4, .inl (kI, 24, .inl q_salt)), (ra 10, .inl (kI, 6, .inl q_goal)), (ra 11, .inl (kI, 1019, .inl q_now)), (m0, .inr (11, oX11 ra x0)), (ra 2, .inl (kI, 8, .inl q_told)), (ra 8, .inl (kI, 40, .inl q_from)), (ra 9, .inl (kI, 40, .inl q_to)), (ra 14, .inl (kI, 12, .inl q_reach))] := hDa
            clear hPa hDa
            refine W.widen (k := 0) (n := 0) (Nat.le_of_ble_eq_true rfl) (Nat.le_of_ble_eq_true rfl) ?_
            have hPD9 := cl_s (wc := [(m0, .inr (11, oX11 ra x0)), (ra 2, .inl (kI, 8, .inl q_told)), (ra 3, .inl (kI, 24, .inl q_kind)), (ra 4, .inl (kI, 24, .inl q_salt)), (ra 8, .inl (kI, 40, .inl q_from)), (ra 9, .inl (kI, 40, .inl q_to)), (ra 10, .inl (kI, 6, .inl q_goal)), (ra 11, .inl (kI, 1019, .inl q_now)), (ra 14, .inl (kI, 12, .inl q_reach))]) hP hD [4, 5, 0, 1, 6, 7, 2, 3, 8] rfl (by decide +kernel)
            have hP9 := hPD9.1
            have hD9 := hPD9.2
            exact W.iret (v := r105) hx hb hr (fun t ht hW => ⟨⟨r105, (), rfl, ⟨w106.1, w106.2⟩, q_now, hq_now, by rw [ht]; exact hP9, hD9⟩, hS.F ht⟩) hS.2.2 dX11_goesBy_172
        · have b107 : iv 1 1 (x0 12) := iv_eqL c68 ivk_1
          refine lv_bipush (v := 7) hx hb dX11_goesBy_85 bp_7 ?_
          refine lv_iload_n hx hb dX11_goesBy_87 rfl (lv_at hl 6 rfl) ?_
          refine lv_imul hx hb dX11_goesBy_88 ?_
          refine iv_top (a := 0) (b := 217) (iv_mul ivk_7 hp1 (by decide) (by decide) (by decide) (by decide) (by decide)) (fun z108 b109 => ?_)
          refine lv_bipush (v := 13) hx hb dX11_goesBy_89 bp_13 ?_
          refine lv_iload_n hx hb dX11_goesBy_91 rfl (lv_at hl 7 rfl) ?_
          refine lv_imul hx hb dX11_goesBy_92 ?_
          refine iv_top (a := 0) (b := 26) (iv_mul ivk_13 hp2 (by decide) (by decide) (by decide) (by decide) (by decide)) (fun z110 b111 => ?_)
          refine lv_iadd hx hb dX11_goesBy_93 ?_
          refine iv_top (a := 0) (b := 243) (iv_add b109 b111 (by decide) (by decide) (by decide) (by decide)) (fun z112 b113 => ?_)
          refine lv_iload hx hb dX11_goesBy_94 (lv_at hl 0 rfl) ?_
          refine lv_iadd hx hb dX11_goesBy_96 ?_
          refine iv_top (a := 0) (b := 258) (iv_add b113 (hX 13 : iv 0 15 (x0 13)) (by decide) (by decide) (by decide) (by decide)) (fun z114 b115 => ?_)
          refine lv_goto (tgt := 124) hx hb dX11_goesBy_97 rfl ?_
          refine lv_istore (lv' := [(8, .int z114), (7, .int (x0 13)), (6, .int (x0 12)), (5, .int r3), (4, .int z1), (0, .ref m0), (1, .int p0), (2, .int p1), (3, .int p2)]) hx hb dX11_goesBy_124 hl (Nat.le_of_ble_eq_true rfl) rfl (fun ls hl => ?_)
          refine lv_iload hx hb dX11_goesBy_126 (lv_at hl 2 rfl) ?_
          refine lv_iconst (v := 2) hx hb dX11_goesBy_128 ic_2 ?_
          refine lv_icmp_ne (tgt := 160) hx hb dX11_goesBy_129 rfl (fun _ => ?_) (fun c9 => absurd c9 (iv_ne b107 ivk_2 (by decide)))
          refine lv_aload_n hx hb dX11_goesBy_160 rfl (lv_at hl 5 rfl) ?_
          refine lv_iload_n hx hb dX11_goesBy_161 rfl (lv_at hl 6 rfl) ?_
          refine lv_iload hx hb dX11_goesBy_162 (lv_at hl 4 rfl) ?_
          refine lv_iload hx hb dX11_goesBy_164 (lv_at hl 0 rfl) ?_
          refine lv_iload hx hb dX11_goesBy_166 (lv_at hl 3 rfl) ?_
          refine lv_irem hx hb dX11_goesBy_168 c5 ?_
          refine lv_topi (fun z116 _ => ?_)
          obtain ⟨hPc, hDc, hFc, hJn⟩ := cl_a (wc := [(m0, .inr (11, oX11 ra x0)), (ra 2, .inl (kI, 8, .inl q_told)), (ra 8, .inl (kI, 40, .inl q_from)), (ra 9, .inl (kI, 40, .inl q_to)), (ra 14, .inl (kI, 12, .inl q_reach))]) (wr := [(ra 3, .inl (kI, 24, .inl q_kind)), (ra 4, .inl (kI, 24, .inl q_salt)), (ra 10, .inl (kI, 6, .inl q_goal)), (ra 11, .inl (kI, 1019, .inl q_now))]) hP hD hS hA [4, 5, 6, 7, 8] [0, 1, 2, 3] rfl rfl (by decide +kernel)
          refine va_calli (va_runV (As := [.int p0, .int z1, .int z116]) (rest := []) ⟨hx, hb, hml, hown, hts⟩ (s11_branchAt l dC dI kB kI kJ kZ kC kS H.size m0 ra x0 q_told q_from q_to q_reach p0 z1 z116 (hX) (hq_told) (hq_from) (hq_to) (b2)) (cwV 3 hts gX11_goesBy_X11_branchAt rfl rfl rfl (by decide +kernel) ⟨Nat.le_of_ble_eq_true rfl, Nat.le_of_ble_eq_true rfl⟩) ⟨fun a U g mk q => by obtain ⟨q0, q1, qP, qE, qD⟩ := q; exact ⟨q0, q1, qP, kE_call qE, qD⟩, va_recv hK hP (ci := 11) (q0 := 4) rfl rfl, fun U hU hW => ⟨rfl, by rw [hU], by rw [hU]; exact hPc, kE_warm hW hE, hDc.weaken (fun _ _ _ _ => trivial)⟩⟩ rfl rfl hl.1 rfl (lv_room (Nat.le_of_ble_eq_true rfl)) dX11_goesBy_169 ⟨Nat.le_of_ble_eq_true rfl, Nat.le_of_ble_eq_true rfl⟩) hS (fun q _ h => hFc q h) hFc (fun r117 u t H locs ht hvm w118 hB hz1 hk1 hS => ?_)
          obtain ⟨hP1, hD1⟩ := hB
          try dsimp only at w118
          obtain ⟨hPa, hDa⟩ := hJn (w1 := [(m0, .inr (11, oX11 ra x0)), (ra 2, .inl (kI, 8, .inl q_told)), (ra 8, .inl (kI, 40, .inl q_from)), (ra 9, .inl (kI, 40, .inl q_to)), (ra 14, .inl (kI, 12, .inl q_reach))]) hk1 ht hP1 hD1
          clear hP hD hPc hDc hFc hJn hP1 hD1 hk1
          have hP : va_P (dC, dI) vwCl [(ra 3, .inl (kI, 24, .inl q_kind)), (ra 4, .inl (kI, 24, .inl q_salt)), (ra 10, .inl (kI, 6, .inl q_goal)), (ra 11, .inl (kI, 1019, .inl q_now)), (m0, .inr (11, oX11 ra x0)), (ra 2, .inl (kI, 8, .inl q_told)), (ra 8, .inl (kI, 40, .inl q_from)), (ra 9, .inl (kI, 40, .inl q_to)), (ra 14, .inl (kI, 12, .inl q_reach))] H := hPa
          have hD : va_D A [(ra 3, .inl (kI, 24, .inl q_kind)), (ra 4, .inl (kI, 24, .inl q_salt)), (ra 10, .inl (kI, 6, .inl q_goal)), (ra 11, .inl (kI, 1019, .inl q_now)), (m0, .inr (11, oX11 ra x0)), (ra 2, .inl (kI, 8, .inl q_told)), (ra 8, .inl (kI, 40, .inl q_from)), (ra 9, .inl (kI, 40, .inl q_to)), (ra 14, .inl (kI, 12, .inl q_reach))] := hDa
          clear hPa hDa
          refine W.widen (k := 0) (n := 0) (Nat.le_of_ble_eq_true rfl) (Nat.le_of_ble_eq_true rfl) ?_
          have hPD9 := cl_s (wc := [(m0, .inr (11, oX11 ra x0)), (ra 2, .inl (kI, 8, .inl q_told)), (ra 3, .inl (kI, 24, .inl q_kind)), (ra 4, .inl (kI, 24, .inl q_salt)), (ra 8, .inl (kI, 40, .inl q_from)), (ra 9, .inl (kI, 40, .inl q_to)), (ra 10, .inl (kI, 6, .inl q_goal)), (ra 11, .inl (kI, 1019, .inl q_now)), (ra 14, .inl (kI, 12, .inl q_reach))]) hP hD [4, 5, 0, 1, 6, 7, 2, 3, 8] rfl (by decide +kernel)
          have hP9 := hPD9.1
          have hD9 := hPD9.2
          exact W.iret (v := r117) hx hb hr (fun t ht hW => ⟨⟨r117, (), rfl, ⟨w118.1, w118.2⟩, q_now, hq_now, by rw [ht]; exact hP9, hD9⟩, hS.F ht⟩) hS.2.2 dX11_goesBy_172
      · have b119 : iv 0 0 (x0 12) := iv_eqL c67 ivk_0
        refine lv_iconst (v := 0) hx hb dX11_goesBy_75 ic_0 ?_
        refine lv_goto (tgt := 124) hx hb dX11_goesBy_76 rfl ?_
        refine lv_istore (lv' := [(8, .int 0), (7, .int (x0 13)), (6, .int (x0 12)), (5, .int r3), (4, .int z1), (0, .ref m0), (1, .int p0), (2, .int p1), (3, .int p2)]) hx hb dX11_goesBy_124 hl (Nat.le_of_ble_eq_true rfl) rfl (fun ls hl => ?_)
        refine lv_iload hx hb dX11_goesBy_126 (lv_at hl 2 rfl) ?_
        refine lv_iconst (v := 2) hx hb dX11_goesBy_128 ic_2 ?_
        refine lv_icmp_ne (tgt := 160) hx hb dX11_goesBy_129 rfl (fun _ => ?_) (fun c9 => absurd c9 (iv_ne b119 ivk_2 (by decide)))
        refine lv_aload_n hx hb dX11_goesBy_160 rfl (lv_at hl 5 rfl) ?_
        refine lv_iload_n hx hb dX11_goesBy_161 rfl (lv_at hl 6 rfl) ?_
        refine lv_iload hx hb dX11_goesBy_162 (lv_at hl 4 rfl) ?_
        refine lv_iload hx hb dX11_goesBy_164 (lv_at hl 0 rfl) ?_
        refine lv_iload hx hb dX11_goesBy_166 (lv_at hl 3 rfl) ?_
        refine lv_irem hx hb dX11_goesBy_168 c5 ?_
        refine lv_topi (fun z120 _ => ?_)
        obtain ⟨hPc, hDc, hFc, hJn⟩ := cl_a (wc := [(m0, .inr (11, oX11 ra x0)), (ra 2, .inl (kI, 8, .inl q_told)), (ra 8, .inl (kI, 40, .inl q_from)), (ra 9, .inl (kI, 40, .inl q_to)), (ra 14, .inl (kI, 12, .inl q_reach))]) (wr := [(ra 3, .inl (kI, 24, .inl q_kind)), (ra 4, .inl (kI, 24, .inl q_salt)), (ra 10, .inl (kI, 6, .inl q_goal)), (ra 11, .inl (kI, 1019, .inl q_now))]) hP hD hS hA [4, 5, 6, 7, 8] [0, 1, 2, 3] rfl rfl (by decide +kernel)
        refine va_calli (va_runV (As := [.int p0, .int z1, .int z120]) (rest := []) ⟨hx, hb, hml, hown, hts⟩ (s11_branchAt l dC dI kB kI kJ kZ kC kS H.size m0 ra x0 q_told q_from q_to q_reach p0 z1 z120 (hX) (hq_told) (hq_from) (hq_to) (b2)) (cwV 3 hts gX11_goesBy_X11_branchAt rfl rfl rfl (by decide +kernel) ⟨Nat.le_of_ble_eq_true rfl, Nat.le_of_ble_eq_true rfl⟩) ⟨fun a U g mk q => by obtain ⟨q0, q1, qP, qE, qD⟩ := q; exact ⟨q0, q1, qP, kE_call qE, qD⟩, va_recv hK hP (ci := 11) (q0 := 4) rfl rfl, fun U hU hW => ⟨rfl, by rw [hU], by rw [hU]; exact hPc, kE_warm hW hE, hDc.weaken (fun _ _ _ _ => trivial)⟩⟩ rfl rfl hl.1 rfl (lv_room (Nat.le_of_ble_eq_true rfl)) dX11_goesBy_169 ⟨Nat.le_of_ble_eq_true rfl, Nat.le_of_ble_eq_true rfl⟩) hS (fun q _ h => hFc q h) hFc (fun r121 u t H locs ht hvm w122 hB hz1 hk1 hS => ?_)
        obtain ⟨hP1, hD1⟩ := hB
        try dsimp only at w122
        obtain ⟨hPa, hDa⟩ := hJn (w1 := [(m0, .inr (11, oX11 ra x0)), (ra 2, .inl (kI, 8, .inl q_told)), (ra 8, .inl (kI, 40, .inl q_from)), (ra 9, .inl (kI, 40, .inl q_to)), (ra 14, .inl (kI, 12, .inl q_reach))]) hk1 ht hP1 hD1
        clear hP hD hPc hDc hFc hJn hP1 hD1 hk1
        have hP : va_P (dC, dI) vwCl [(ra 3, .inl (kI, 24, .inl q_kind)), (ra 4, .inl (kI, 24, .inl q_salt)), (ra 10, .inl (kI, 6, .inl q_goal)), (ra 11, .inl (kI, 1019, .inl q_now)), (m0, .inr (11, oX11 ra x0)), (ra 2, .inl (kI, 8, .inl q_told)), (ra 8, .inl (kI, 40, .inl q_from)), (ra 9, .inl (kI, 40, .inl q_to)), (ra 14, .inl (kI, 12, .inl q_reach))] H := hPa
        have hD : va_D A [(ra 3, .inl (kI, 24, .inl q_kind)), (ra 4, .inl (kI, 24, .inl q_salt)), (ra 10, .inl (kI, 6, .inl q_goal)), (ra 11, .inl (kI, 1019, .inl q_now)), (m0, .inr (11, oX11 ra x0)), (ra 2, .inl (kI, 8, .inl q_told)), (ra 8, .inl (kI, 40, .inl q_from)), (ra 9, .inl (kI, 40, .inl q_to)), (ra 14, .inl (kI, 12, .inl q_reach))] := hDa
        clear hPa hDa
        refine W.widen (k := 0) (n := 0) (Nat.le_of_ble_eq_true rfl) (Nat.le_of_ble_eq_true rfl) ?_
        have hPD9 := cl_s (wc := [(m0, .inr (11, oX11 ra x0)), (ra 2, .inl (kI, 8, .inl q_told)), (ra 3, .inl (kI, 24, .inl q_kind)), (ra 4, .inl (kI, 24, .inl q_salt)), (ra 8, .inl (kI, 40, .inl q_from)), (ra 9, .inl (kI, 40, .inl q_to)), (ra 10, .inl (kI, 6, .inl q_goal)), (ra 11, .inl (kI, 1019, .inl q_now)), (ra 14, .inl (kI, 12, .inl q_reach))]) hP hD [4, 5, 0, 1, 6, 7, 2, 3, 8] rfl (by decide +kernel)
        have hP9 := hPD9.1
        have hD9 := hPD9.2
        exact W.iret (v := r121) hx hb hr (fun t ht hW => ⟨⟨r121, (), rfl, ⟨w122.1, w122.2⟩, q_now, hq_now, by rw [ht]; exact hP9, hD9⟩, hS.F ht⟩) hS.2.2 dX11_goesBy_172
  · have b123 : iv 0 0 r3 := iv_eqL c5 ivk_0
    refine lv_iconst (v := (-1)) hx hb dX11_goesBy_22 ic_m1 ?_
    have hPD9 := cl_s (wc := [(m0, .inr (11, oX11 ra x0)), (ra 2, .inl (kI, 8, .inl q_told)), (ra 3, .inl (kI, 24, .inl q_kind)), (ra 4, .inl (kI, 24, .inl q_salt)), (ra 8, .inl (kI, 40, .inl q_from)), (ra 9, .inl (kI, 40, .inl q_to)), (ra 10, .inl (kI, 6, .inl q_goal)), (ra 11, .inl (kI, 1019, .inl q_now)), (ra 14, .inl (kI, 12, .inl q_reach))]) hP hD [4, 5, 0, 1, 6, 7, 2, 3, 8] rfl (by decide +kernel)
    have hP9 := hPD9.1
    have hD9 := hPD9.2
    exact W.iret (v := (-1)) hx hb hr (fun t ht hW => ⟨⟨(-1), (), rfl, ⟨(iv_w ivk_m1 (by decide) (by decide)), Or.inl rfl⟩, q_now, hq_now, by rw [ht]; exact hP9, hD9⟩, hS.F ht⟩) hS.2.2 dX11_goesBy_23
def rm_s11_routerOf : Room := { frames := 0, cells := 0, slots := 0, locals := 0 }
set_option maxHeartbeats 4000000 in
set_option maxRecDepth 100000 in
theorem s11_routerOf (l : Launch) (dC : Nat → ClassId) (dI : Nat → Nat → Nat) (kB kI kJ kZ kC kS : ClassId) (sz : Nat) (m0 : Nat) (ra : Nat → Nat) (x0 : Nat → Int32) (q_to : Nat → Int32) (p0 : Int32) (hX : fI lX11 hX11 x0) (hq_to : fI (fun _ => 0) (fun _ => 11) q_to) (hp0 : iv 0 40 p0) : Met l yX11_routerOf wsX11_routerOf rm_s11_routerOf (va_Pc [.ref m0, .int p0] (fun U => U.heap.size = sz ∧ va_P (dC, dI) vwCl [(m0, .inr (11, oX11 ra x0)), (ra 9, .inl (kI, 40, .inl q_to))] U.heap ∧ kE dC dI kB kI kJ kZ kC kS U ∧ va_D (fun _ => True) [(m0, .inr (11, oX11 ra x0)), (ra 9, .inl (kI, 40, .inl q_to))])) (va_Qi (fun (r : Int32) (_ : Unit) => iv 0 11 r) (fun _ t => va_P (dC, dI) vwCl [(m0, .inr (11, oX11 ra x0)), (ra 9, .inl (kI, 40, .inl q_to))] t.heap ∧ va_D (va_A [(m0, .inr (11, oX11 ra x0)), (ra 9, .inl (kI, 40, .inl q_to))] sz) [(m0, .inr (11, oX11 ra x0)), (ra 9, .inl (kI, 40, .inl q_to))]) (va_A [(m0, .inr (11, oX11 ra x0)), (ra 9, .inl (kI, 40, .inl q_to))] sz)) 0 0 (va_A [(m0, .inr (11, oX11 ra x0)), (ra 9, .inl (kI, 40, .inl q_to))] sz) := by
  refine Met.ofW (cc := cX11_routerOf) (maxL := 2) (ret := (some .int)) (by decide) rfl ?_
  intro p e s m args0 below meth c s₁ B hml hv
  obtain ⟨hargs, hsz, hP, hE, hD0⟩ := hv
  have hx := B.exec
  have hb := B.bytes
  have hr := B.returns
  have hts := atoms_spec (ws := wsX11_routerOf) B.pre
  have hown : s.vm.findClass RX11 = some m.cls := findClass_of_methodNamed B.named
  have hlocks := B.notSynchronized
  have hK := hE.1
  have hin11 : ∀ w ∈ wsX110, w ∈ wsX11_routerOf := fun _ h9 => List.mem_cons_of_mem _ (List.mem_append_right _ h9)
  have hw_0 := hts (.fieldLink RX11 56 "PathProberModel" "to" "[I") (List.mem_of_getElem? (i := 1) rfl)
  subst hsz
  have hD := hD0.self (sz := s.heap.size)
  generalize hAe : va_A [(m0, .inr (11, oX11 ra x0)), (ra 9, .inl (kI, 40, .inl q_to))] s.heap.size = A at hD ⊢
  have hA : ∀ q : Nat, s.heap.size ≤ q → A q := fun q h => by rw [← hAe]; exact Or.inr h
  have hS : va_S A s.heap s.heap [] := va_S.rf
  have hP : va_P (dC, dI) vwCl [(m0, .inr (11, oX11 ra x0)), (ra 9, .inl (kI, 40, .inl q_to))] s.heap := hP
  have hl := lv_entry ([.ref m0, .int p0]) (n := 2) (Nat.le_of_ble_eq_true rfl)
  have hla : entryFrame m args0 2 = entryFrame m ([.ref m0, .int p0] : List Value).toArray 2 := by rw [hargs]
  rw [hla, lg_entry_eq]
  generalize (lg_sl ([.ref m0, .int p0]) ++ List.replicate (2 - (lg_sl ([.ref m0, .int p0])).length) Slot.unset).toArray = ls at hl ⊢
  have hl : lv_has ls 2 [(0, .ref m0), (1, .int p0)] := hl
  refine lv_iload_n hx hb dX11_routerOf_0 rfl (lv_at hl 1 rfl) ?_
  refine lv_if_ne (tgt := 8) hx hb dX11_routerOf_1 rfl (fun c1 => ?_) (fun c1 => ?_)
  · have b2 : iv 1 40 p0 := iv_neLo c1 hp0 ivk_0 (by decide) (by decide)
    refine lv_aload_n hx hb dX11_routerOf_8 rfl (lv_at hl 0 rfl) ?_
    refine va_get (D := (dC, dI)) (ci := 11) (v := .ref (ra 9)) (C := RX11) (T := TX11) (N := 61) hx hb hts hin11 hown hK hP 0 rfl rfl 10 (Nat.le_of_ble_eq_true rfl) hw_0 (fun _ h9 => h9) rfl dX11_routerOf_9 ?_
    refine lv_iload_n hx hb dX11_routerOf_12 rfl (lv_at hl 1 rfl) ?_
    refine lv_iconst (v := 1) hx hb dX11_routerOf_13 ic_1 ?_
    refine lv_isub hx hb dX11_routerOf_14 ?_
    refine iv_top (a := 0) (b := 39) (iv_sub b2 ivk_1 (by decide) (by decide) (by decide) (by decide)) (fun z3 b4 => ?_)
    refine va_iald hx hb hK hP 1 1 rfl rfl (iv_in b4 (by decide) (by decide)) dX11_routerOf_15 ?_
    refine iv_top (a := 0) (b := 11) (hq_to _) (fun z5 b6 => ?_)
    have hP9 := hP
    have hD9 := hD
    exact W.iret (v := z5) hx hb hr (fun t ht hW => ⟨⟨z5, (), rfl, b6, by rw [ht]; exact hP9, hD9⟩, hS.F ht⟩) hS.2.2 dX11_routerOf_16
  · have b7 : iv 0 0 p0 := iv_eqL c1 ivk_0
    refine lv_iconst (v := 0) hx hb dX11_routerOf_4 ic_0 ?_
    refine lv_goto (tgt := 16) hx hb dX11_routerOf_5 rfl ?_
    have hP9 := hP
    have hD9 := hD
    exact W.iret (v := 0) hx hb hr (fun t ht hW => ⟨⟨0, (), rfl, (iv_w ivk_0 (by decide) (by decide)), by rw [ht]; exact hP9, hD9⟩, hS.F ht⟩) hS.2.2 dX11_routerOf_16
