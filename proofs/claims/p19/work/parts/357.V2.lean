def rm_s8_hasRoomFor_yes : Room := { frames := 0, cells := 0, slots := 0, locals := 0 }
set_option maxHeartbeats 4000000 in
set_option maxRecDepth 100000 in
theorem s8_hasRoomFor_yes (l : Launch) (dC : Nat → ClassId) (dI : Nat → Nat → Nat) (kB kI kJ kZ kC kS : ClassId) (sz : Nat) (ot : Nat) (t_bytes : Nat) (x_t : Nat → Int32) (hx_t : fI lX8 hX8 x_t) (hfl : iv 0 680 (x_t 0)) : Met l yX8_hasRoomFor wsX8_hasRoomFor rm_s8_hasRoomFor_yes (va_Pc [.ref ot, .int 20] (fun U => U.heap.size = sz ∧ va_P (dC, dI) vwCl [(ot, .inr (8, oX8 t_bytes x_t))] U.heap ∧ kE dC dI kB kI kJ kZ kC kS U ∧ va_D (fun _ => True) [(ot, .inr (8, oX8 t_bytes x_t))])) (va_Qi (fun (r : Int32) (_ : Unit) => iv 1 1 r) (fun _ t => va_P (dC, dI) vwCl [(ot, .inr (8, oX8 t_bytes x_t))] t.heap ∧ va_D (va_A [(ot, .inr (8, oX8 t_bytes x_t))] sz) [(ot, .inr (8, oX8 t_bytes x_t))]) (va_A [(ot, .inr (8, oX8 t_bytes x_t))] sz)) 0 0 (va_A [(ot, .inr (8, oX8 t_bytes x_t))] sz) := by
  refine Met.ofW (cc := cX8_hasRoomFor) (maxL := 2) (ret := (some .boolean)) (by decide) rfl ?_
  intro p e s m args0 below meth c s₁ B hml hv
  obtain ⟨hargs, hsz, hP, hE, hD0⟩ := hv
  have hx := B.exec
  have hb := B.bytes
  have hr := B.returns
  have hts := atoms_spec (ws := wsX8_hasRoomFor) B.pre
  have hown : s.vm.findClass RX8 = some m.cls := findClass_of_methodNamed B.named
  have hlocks := B.notSynchronized
  have hK := hE.1
  have hin8 : ∀ w ∈ wsX80, w ∈ wsX8_hasRoomFor := fun _ h9 => List.mem_cons_of_mem _ (List.mem_append_right _ h9)
  have hw_0 := hts (.fieldLink RX8 15 "PathProber$Tape" "length" "I") (List.mem_of_getElem? (i := 1) rfl)
  subst hsz
  have hD := hD0.self (sz := s.heap.size)
  generalize hAe : va_A [(ot, .inr (8, oX8 t_bytes x_t))] s.heap.size = A at hD ⊢
  have hA : ∀ q : Nat, s.heap.size ≤ q → A q := fun q h => by rw [← hAe]; exact Or.inr h
  have hS : va_S A s.heap s.heap [] := va_S.rf
  have hP : va_P (dC, dI) vwCl [(ot, .inr (8, oX8 t_bytes x_t))] s.heap := hP
  have hl := lv_entry ([.ref ot, .int 20]) (n := 2) (Nat.le_of_ble_eq_true rfl)
  have hla : entryFrame m args0 2 = entryFrame m ([.ref ot, .int 20] : List Value).toArray 2 := by rw [hargs]
  rw [hla, lg_entry_eq]
  generalize (lg_sl ([.ref ot, .int 20]) ++ List.replicate (2 - (lg_sl ([.ref ot, .int 20])).length) Slot.unset).toArray = ls at hl ⊢
  have hl : lv_has ls 2 [(0, .ref ot), (1, .int 20)] := hl
  refine lv_aload_n hx hb dX8_hasRoomFor_0 rfl (lv_at hl 0 rfl) ?_
  refine va_get (D := (dC, dI)) (ci := 8) (v := .int (x_t 0)) (C := RX8) (T := TX8) (N := 2) hx hb hts hin8 hown hK hP 0 rfl rfl 1 (Nat.le_of_ble_eq_true rfl) hw_0 (fun _ h9 => h9) rfl dX8_hasRoomFor_1 ?_
  refine lv_iload_n hx hb dX8_hasRoomFor_4 rfl (lv_at hl 1 rfl) ?_
  refine lv_iadd hx hb dX8_hasRoomFor_5 ?_
  refine iv_top (a := 20) (b := 700) (iv_add hfl ivk_20 (by decide) (by decide) (by decide) (by decide)) (fun z1 b2 => ?_)
  refine lv_sipush (v := 700) hx hb dX8_hasRoomFor_6 (by decide) ?_
  refine lv_icmp_gt (tgt := 16) hx hb dX8_hasRoomFor_9 rfl (fun c9 => absurd c9 (iv_nlt ivk_700 b2 (by decide))) (fun _ => ?_)
  refine lv_iconst (v := 1) hx hb dX8_hasRoomFor_12 ic_1 ?_
  refine lv_goto (tgt := 17) hx hb dX8_hasRoomFor_13 rfl ?_
  have hP9 := hP
  have hD9 := hD
  exact W.zret (v := 1) (ty := .boolean) hx hb hr rfl (fun t ht hW => ⟨⟨1, (), rfl, ivk_1, by rw [ht]; exact hP9, hD9⟩, hS.F ht⟩) hS.2.2 dX8_hasRoomFor_17
def rm_s8_hasRoomFor_4 : Room := { frames := 0, cells := 0, slots := 0, locals := 0 }
set_option maxHeartbeats 4000000 in
set_option maxRecDepth 100000 in
theorem s8_hasRoomFor_4 (l : Launch) (dC : Nat → ClassId) (dI : Nat → Nat → Nat) (kB kI kJ kZ kC kS : ClassId) (sz : Nat) (ot : Nat) (t_bytes : Nat) (x_t : Nat → Int32) (hx_t : fI lX8 hX8 x_t) (hfl : iv 0 696 (x_t 0)) : Met l yX8_hasRoomFor wsX8_hasRoomFor rm_s8_hasRoomFor_4 (va_Pc [.ref ot, .int 4] (fun U => U.heap.size = sz ∧ va_P (dC, dI) vwCl [(ot, .inr (8, oX8 t_bytes x_t))] U.heap ∧ kE dC dI kB kI kJ kZ kC kS U ∧ va_D (fun _ => True) [(ot, .inr (8, oX8 t_bytes x_t))])) (va_Qi (fun (r : Int32) (_ : Unit) => iv 1 1 r) (fun _ t => va_P (dC, dI) vwCl [(ot, .inr (8, oX8 t_bytes x_t))] t.heap ∧ va_D (va_A [(ot, .inr (8, oX8 t_bytes x_t))] sz) [(ot, .inr (8, oX8 t_bytes x_t))]) (va_A [(ot, .inr (8, oX8 t_bytes x_t))] sz)) 0 0 (va_A [(ot, .inr (8, oX8 t_bytes x_t))] sz) := by
  refine Met.ofW (cc := cX8_hasRoomFor) (maxL := 2) (ret := (some .boolean)) (by decide) rfl ?_
  intro p e s m args0 below meth c s₁ B hml hv
  obtain ⟨hargs, hsz, hP, hE, hD0⟩ := hv
  have hx := B.exec
  have hb := B.bytes
  have hr := B.returns
  have hts := atoms_spec (ws := wsX8_hasRoomFor) B.pre
  have hown : s.vm.findClass RX8 = some m.cls := findClass_of_methodNamed B.named
  have hlocks := B.notSynchronized
  have hK := hE.1
  have hin8 : ∀ w ∈ wsX80, w ∈ wsX8_hasRoomFor := fun _ h9 => List.mem_cons_of_mem _ (List.mem_append_right _ h9)
  have hw_0 := hts (.fieldLink RX8 15 "PathProber$Tape" "length" "I") (List.mem_of_getElem? (i := 1) rfl)
  subst hsz
  have hD := hD0.self (sz := s.heap.size)
  generalize hAe : va_A [(ot, .inr (8, oX8 t_bytes x_t))] s.heap.size = A at hD ⊢
  have hA : ∀ q : Nat, s.heap.size ≤ q → A q := fun q h => by rw [← hAe]; exact Or.inr h
  have hS : va_S A s.heap s.heap [] := va_S.rf
  have hP : va_P (dC, dI) vwCl [(ot, .inr (8, oX8 t_bytes x_t))] s.heap := hP
  have hl := lv_entry ([.ref ot, .int 4]) (n := 2) (Nat.le_of_ble_eq_true rfl)
  have hla : entryFrame m args0 2 = entryFrame m ([.ref ot, .int 4] : List Value).toArray 2 := by rw [hargs]
  rw [hla, lg_entry_eq]
  generalize (lg_sl ([.ref ot, .int 4]) ++ List.replicate (2 - (lg_sl ([.ref ot, .int 4])).length) Slot.unset).toArray = ls at hl ⊢
  have hl : lv_has ls 2 [(0, .ref ot), (1, .int 4)] := hl
  refine lv_aload_n hx hb dX8_hasRoomFor_0 rfl (lv_at hl 0 rfl) ?_
  refine va_get (D := (dC, dI)) (ci := 8) (v := .int (x_t 0)) (C := RX8) (T := TX8) (N := 2) hx hb hts hin8 hown hK hP 0 rfl rfl 1 (Nat.le_of_ble_eq_true rfl) hw_0 (fun _ h9 => h9) rfl dX8_hasRoomFor_1 ?_
  refine lv_iload_n hx hb dX8_hasRoomFor_4 rfl (lv_at hl 1 rfl) ?_
  refine lv_iadd hx hb dX8_hasRoomFor_5 ?_
  refine iv_top (a := 4) (b := 700) (iv_add hfl ivk_4 (by decide) (by decide) (by decide) (by decide)) (fun z1 b2 => ?_)
  refine lv_sipush (v := 700) hx hb dX8_hasRoomFor_6 (by decide) ?_
  refine lv_icmp_gt (tgt := 16) hx hb dX8_hasRoomFor_9 rfl (fun c9 => absurd c9 (iv_nlt ivk_700 b2 (by decide))) (fun _ => ?_)
  refine lv_iconst (v := 1) hx hb dX8_hasRoomFor_12 ic_1 ?_
  refine lv_goto (tgt := 17) hx hb dX8_hasRoomFor_13 rfl ?_
  have hP9 := hP
  have hD9 := hD
  exact W.zret (v := 1) (ty := .boolean) hx hb hr rfl (fun t ht hW => ⟨⟨1, (), rfl, ivk_1, by rw [ht]; exact hP9, hD9⟩, hS.F ht⟩) hS.2.2 dX8_hasRoomFor_17
def rm_s8_append_x : Room := { frames := 1, cells := 0, slots := 0, locals := 21 }
set_option maxHeartbeats 4000000 in
set_option maxRecDepth 100000 in
theorem s8_append_x (l : Launch) (dC : Nat → ClassId) (dI : Nat → Nat → Nat) (kB kI kJ kZ kC kS : ClassId) (sz : Nat) (ot : Nat) (t_bytes : Nat) (x_t : Nat → Int32) (f_t_bytes : Nat → Int32) (p0 : Int32) (hx_t : fI lX8 hX8 x_t) (hf_t_bytes : fI (fun _ => (-128)) (fun _ => 127) f_t_bytes) (hfl : iv 0 696 (x_t 0)) : Met l yX8_append wsX8_append rm_s8_append_x (va_Pc [.ref ot, .int p0] (fun U => U.heap.size = sz ∧ va_P (dC, dI) vwCl [(ot, .inr (8, oX8 t_bytes x_t)), (t_bytes, .inl (kB, 700, .inl f_t_bytes))] U.heap ∧ kE dC dI kB kI kJ kZ kC kS U ∧ va_D (fun _ => True) [(ot, .inr (8, oX8 t_bytes x_t)), (t_bytes, .inl (kB, 700, .inl f_t_bytes))])) (va_Qv (fun (_ : Unit) => True) (fun _ t => ∃ (x_t' : Nat → Int32) (f_t_bytes' : Nat → Int32), fI lX8 hX8 x_t' ∧ fI (fun _ => (-128)) (fun _ => 127) f_t_bytes' ∧ ((x_t' 0).toInt = (x_t 0).toInt + 4) ∧ (x_t' 0 = t4T (x_t 0)) ∧ (f_t_bytes' = apC f_t_bytes (x_t 0) p0) ∧ va_P (dC, dI) vwCl [(ot, .inr (8, oX8 t_bytes x_t')), (t_bytes, .inl (kB, 700, .inl f_t_bytes'))] t.heap ∧ va_D (va_A [(ot, .inr (8, oX8 t_bytes x_t)), (t_bytes, .inl (kB, 700, .inl f_t_bytes))] sz) [(ot, .inr (8, oX8 t_bytes x_t')), (t_bytes, .inl (kB, 700, .inl f_t_bytes'))]) (va_A [(ot, .inr (8, oX8 t_bytes x_t)), (t_bytes, .inl (kB, 700, .inl f_t_bytes))] sz)) 0 0 (va_A [(ot, .inr (8, oX8 t_bytes x_t)), (t_bytes, .inl (kB, 700, .inl f_t_bytes))] sz) := by
  refine Met.ofW (cc := cX8_append) (maxL := 3) (ret := none) (by decide) rfl ?_
  intro p e s m args0 below meth c s₁ B hml hv
  obtain ⟨hargs, hsz, hP, hE, hD0⟩ := hv
  have hx := B.exec
  have hb := B.bytes
  have hr := B.returns
  have hts := atoms_spec (ws := wsX8_append) B.pre
  have hown : s.vm.findClass RX8 = some m.cls := findClass_of_methodNamed B.named
  have hlocks := B.notSynchronized
  have hK := hE.1
  have hin8 : ∀ w ∈ wsX80, w ∈ wsX8_append := fun _ h9 => List.mem_cons_of_mem _ (List.mem_append_right _ h9)
  have hw_0 := hts (.fieldLink RX8 9 "PathProber$Tape" "bytes" "[B") (List.mem_of_getElem? (i := 1) rfl)
  have hw_1 := hts (.fieldLink RX8 15 "PathProber$Tape" "length" "I") (List.mem_of_getElem? (i := 2) rfl)
  subst hsz
  have hD := hD0.self (sz := s.heap.size)
  generalize hAe : va_A [(ot, .inr (8, oX8 t_bytes x_t)), (t_bytes, .inl (kB, 700, .inl f_t_bytes))] s.heap.size = A at hD ⊢
  have hA : ∀ q : Nat, s.heap.size ≤ q → A q := fun q h => by rw [← hAe]; exact Or.inr h
  have hS : va_S A s.heap s.heap [] := va_S.rf
  have hP : va_P (dC, dI) vwCl [(ot, .inr (8, oX8 t_bytes x_t)), (t_bytes, .inl (kB, 700, .inl f_t_bytes))] s.heap := hP
  have hl := lv_entry ([.ref ot, .int p0]) (n := 3) (Nat.le_of_ble_eq_true rfl)
  have hla : entryFrame m args0 3 = entryFrame m ([.ref ot, .int p0] : List Value).toArray 3 := by rw [hargs]
  rw [hla, lg_entry_eq]
  generalize (lg_sl ([.ref ot, .int p0]) ++ List.replicate (3 - (lg_sl ([.ref ot, .int p0])).length) Slot.unset).toArray = ls at hl ⊢
  have hl : lv_has ls 3 [(0, .ref ot), (1, .int p0)] := hl
  refine lv_aload_n hx hb dX8_append_0 rfl (lv_at hl 0 rfl) ?_
  refine lv_iconst (v := 4) hx hb dX8_append_1 ic_4 ?_
  obtain ⟨hPc, hDc, hFc, hJn⟩ := cl_a (wc := [(ot, .inr (8, oX8 t_bytes x_t))]) (wr := [(t_bytes, .inl (kB, 700, .inl f_t_bytes))]) hP hD hS hA [0] [1] rfl rfl (by decide +kernel)
  refine va_calli (va_runV (As := [.int 4]) (rest := []) ⟨hx, hb, hml, hown, hts⟩ (s8_hasRoomFor_4 l dC dI kB kI kJ kZ kC kS s.heap.size ot t_bytes x_t (hx_t) (hfl)) (cwV 1 hts gX8_append_X8_hasRoomFor rfl rfl rfl (by decide +kernel) ⟨Nat.le_of_ble_eq_true rfl, Nat.le_of_ble_eq_true rfl⟩) ⟨fun a U g mk q => by obtain ⟨q0, q1, qP, qE, qD⟩ := q; exact ⟨q0, q1, qP, kE_call qE, qD⟩, va_recv hK hP (ci := 8) (q0 := 0) rfl rfl, fun U hU hW => ⟨rfl, by rw [hU], by rw [hU]; exact hPc, kE_warm hW hE, hDc.weaken (fun _ _ _ _ => trivial)⟩⟩ rfl rfl hl.1 rfl (lv_room (Nat.le_of_ble_eq_true rfl)) dX8_append_2 ⟨Nat.le_of_ble_eq_true rfl, Nat.le_of_ble_eq_true rfl⟩) hS (fun q _ h => hFc q h) hFc (fun r1 u t H locs ht hvm w2 hB hz1 hk1 hS => ?_)
  obtain ⟨hP1, hD1⟩ := hB
  try dsimp only at w2
  obtain ⟨hPa, hDa⟩ := hJn (w1 := [(ot, .inr (8, oX8 t_bytes x_t))]) hk1 ht hP1 hD1
  clear hP hD hPc hDc hFc hJn hP1 hD1 hk1
  have hP : va_P (dC, dI) vwCl [(t_bytes, .inl (kB, 700, .inl f_t_bytes)), (ot, .inr (8, oX8 t_bytes x_t))] H := hPa
  have hD : va_D A [(t_bytes, .inl (kB, 700, .inl f_t_bytes)), (ot, .inr (8, oX8 t_bytes x_t))] := hDa
  clear hPa hDa
  refine W.widen (k := 0) (n := 0) (Nat.le_of_ble_eq_true rfl) (Nat.le_of_ble_eq_true rfl) ?_
  obtain rfl : r1 = 1 := iv_one w2 (by decide)
  refine lv_if_ne (tgt := 9) hx hb dX8_append_5 rfl (fun _ => ?_) (fun c9 => absurd c9 (by decide))
  refine lv_bipush (v := 24) hx hb dX8_append_9 bp_24 ?_
  refine lv_istore_n (lv' := [(2, .int 24), (0, .ref ot), (1, .int p0)]) hx hb dX8_append_11 rfl hl (Nat.le_of_ble_eq_true rfl) rfl (fun ls hl => ?_)
  refine lv_iload_n hx hb dX8_append_12 rfl (lv_at hl 0 rfl) ?_
  refine lv_if_lt (tgt := 45) hx hb dX8_append_13 rfl (fun c9 => absurd c9 (by decide)) (fun _ => ?_)
  refine lv_aload_n hx hb dX8_append_16 rfl (lv_at hl 1 rfl) ?_
  refine va_get (D := (dC, dI)) (ci := 8) (v := .ref t_bytes) (C := RX8) (T := TX8) (N := 2) hx hb hts hin8 hown hK hP 1 rfl rfl 0 (Nat.le_of_ble_eq_true rfl) hw_0 (fun _ h9 => h9) rfl dX8_append_17 ?_
  refine lv_aload_n hx hb dX8_append_20 rfl (lv_at hl 1 rfl) ?_
  refine va_get (D := (dC, dI)) (ci := 8) (v := .int (x_t 0)) (C := RX8) (T := TX8) (N := 2) hx hb hts hin8 hown hK hP 1 rfl rfl 1 (Nat.le_of_ble_eq_true rfl) hw_1 (fun _ h9 => h9) rfl dX8_append_21 ?_
  refine lv_iload_n hx hb dX8_append_24 rfl (lv_at hl 2 rfl) ?_
  refine lv_iload_n hx hb dX8_append_25 rfl (lv_at hl 0 rfl) ?_
  refine lv_ishr hx hb dX8_append_26 ?_
  refine lv_i2b (v := (p0 >>> ((24 : Int32) &&& 31)).toInt8.toInt32) hx hb dX8_append_27 rfl ?_
  refine va_bast hx hb hK hP hD hS 0 0 rfl rfl (iv_in hfl (by decide) (by decide)) dX8_append_28 (fun H locs hPa hDa hS => ?_)
  clear hP hD
  have hP : va_P (dC, dI) vwCl [(t_bytes, .inl (kB, 700, .inl (upd f_t_bytes (x_t 0).toNatClampNeg (vp_nar .byte ((p0 >>> ((24 : Int32) &&& 31)).toInt8.toInt32))))), (ot, .inr (8, oX8 t_bytes x_t))] H := hPa
  have hD : va_D A [(t_bytes, .inl (kB, 700, .inl (upd f_t_bytes (x_t 0).toNatClampNeg (vp_nar .byte ((p0 >>> ((24 : Int32) &&& 31)).toInt8.toInt32))))), (ot, .inr (8, oX8 t_bytes x_t))] := hDa
  clear hPa hDa
  refine lv_aload_n hx hb dX8_append_29 rfl (lv_at hl 1 rfl) ?_
  refine lv_dup hx hb dX8_append_30 rfl ?_
  refine va_get (D := (dC, dI)) (ci := 8) (v := .int (x_t 0)) (C := RX8) (T := TX8) (N := 2) hx hb hts hin8 hown hK hP 1 rfl rfl 1 (Nat.le_of_ble_eq_true rfl) hw_1 (fun _ h9 => h9) rfl dX8_append_31 ?_
  refine lv_iconst (v := 1) hx hb dX8_append_34 ic_1 ?_
  refine lv_iadd hx hb dX8_append_35 ?_
  have b3 : iv 1 697 ((x_t 0) + 1) := iv_add hfl ivk_1 (by decide) (by decide) (by decide) (by decide)
  refine va_put (D := (dC, dI)) (ci := 8) (v := .int ((x_t 0) + 1)) (ty := .int) (C := RX8) (T := TX8) (N := 2) hx hb hts hin8 tyX8 tyX8_ok nmX8 hown hK hP hD hS 1 rfl rfl 1 (by decide) hw_1 (fun _ h9 => h9) rfl (by decide +kernel) rfl rfl (Nat.le_of_ble_eq_true rfl) dX8_append_36 (fun H locs hPa hDa hS => ?_)
  clear hP hD
  have hP : va_P (dC, dI) vwCl [(t_bytes, .inl (kB, 700, .inl (upd f_t_bytes (x_t 0).toNatClampNeg (vp_nar .byte ((p0 >>> ((24 : Int32) &&& 31)).toInt8.toInt32))))), (ot, .inr (8, oX8 t_bytes (upd x_t 0 ((x_t 0) + 1))))] H := hPa
  have hD : va_D A [(t_bytes, .inl (kB, 700, .inl (upd f_t_bytes (x_t 0).toNatClampNeg (vp_nar .byte ((p0 >>> ((24 : Int32) &&& 31)).toInt8.toInt32))))), (ot, .inr (8, oX8 t_bytes (upd x_t 0 ((x_t 0) + 1))))] := hDa
  clear hPa hDa
  refine lv_iinc (v := 16) (lv' := [(2, .int 16), (0, .ref ot), (1, .int p0)]) hx hb dX8_append_39 hl (k := 0) rfl (by decide) (Nat.le_of_ble_eq_true rfl) rfl (fun ls hl => ?_)
  refine lv_goto (tgt := 12) hx hb dX8_append_42 rfl ?_
  refine lv_iload_n hx hb dX8_append_12 rfl (lv_at hl 0 rfl) ?_
  refine lv_if_lt (tgt := 45) hx hb dX8_append_13 rfl (fun c9 => absurd c9 (by decide)) (fun _ => ?_)
  refine lv_aload_n hx hb dX8_append_16 rfl (lv_at hl 1 rfl) ?_
  refine va_get (D := (dC, dI)) (ci := 8) (v := .ref t_bytes) (C := RX8) (T := TX8) (N := 2) hx hb hts hin8 hown hK hP 1 rfl rfl 0 (Nat.le_of_ble_eq_true rfl) hw_0 (fun _ h9 => h9) rfl dX8_append_17 ?_
  refine lv_aload_n hx hb dX8_append_20 rfl (lv_at hl 1 rfl) ?_
  refine va_get (D := (dC, dI)) (ci := 8) (v := .int ((x_t 0) + 1)) (C := RX8) (T := TX8) (N := 2) hx hb hts hin8 hown hK hP 1 rfl rfl 1 (Nat.le_of_ble_eq_true rfl) hw_1 (fun _ h9 => h9) rfl dX8_append_21 ?_
  refine lv_iload_n hx hb dX8_append_24 rfl (lv_at hl 2 rfl) ?_
  refine lv_iload_n hx hb dX8_append_25 rfl (lv_at hl 0 rfl) ?_
  refine lv_ishr hx hb dX8_append_26 ?_
  refine lv_i2b (v := (p0 >>> ((16 : Int32) &&& 31)).toInt8.toInt32) hx hb dX8_append_27 rfl ?_
  refine va_bast hx hb hK hP hD hS 0 0 rfl rfl (iv_in b3 (by decide) (by decide)) dX8_append_28 (fun H locs hPa hDa hS => ?_)
  clear hP hD
  have hP : va_P (dC, dI) vwCl [(t_bytes, .inl (kB, 700, .inl (upd (upd f_t_bytes (x_t 0).toNatClampNeg (vp_nar .byte ((p0 >>> ((24 : Int32) &&& 31)).toInt8.toInt32))) ((x_t 0) + 1).toNatClampNeg (vp_nar .byte ((p0 >>> ((16 : Int32) &&& 31)).toInt8.toInt32))))), (ot, .inr (8, oX8 t_bytes (upd x_t 0 ((x_t 0) + 1))))] H := hPa
  have hD : va_D A [(t_bytes, .inl (kB, 700, .inl (upd (upd f_t_bytes (x_t 0).toNatClampNeg (vp_nar .byte ((p0 >>> ((24 : Int32) &&& 31)).toInt8.toInt32))) ((x_t 0) + 1).toNatClampNeg (vp_nar .byte ((p0 >>> ((16 : Int32) &&& 31)).toInt8.toInt32))))), (ot, .inr (8, oX8 t_bytes (upd x_t 0 ((x_t 0) + 1))))] := hDa
  clear hPa hDa
  refine lv_aload_n hx hb dX8_append_29 rfl (lv_at hl 1 rfl) ?_
  refine lv_dup hx hb dX8_append_30 rfl ?_
  refine va_get (D := (dC, dI)) (ci := 8) (v := .int ((x_t 0) + 1)) (C := RX8) (T := TX8) (N := 2) hx hb hts hin8 hown hK hP 1 rfl rfl 1 (Nat.le_of_ble_eq_true rfl) hw_1 (fun _ h9 => h9) rfl dX8_append_31 ?_
  refine lv_iconst (v := 1) hx hb dX8_append_34 ic_1 ?_
  refine lv_iadd hx hb dX8_append_35 ?_
  have b4 : iv 2 698 (((x_t 0) + 1) + 1) := iv_add b3 ivk_1 (by decide) (by decide) (by decide) (by decide)
  refine va_put (D := (dC, dI)) (ci := 8) (v := .int (((x_t 0) + 1) + 1)) (ty := .int) (C := RX8) (T := TX8) (N := 2) hx hb hts hin8 tyX8 tyX8_ok nmX8 hown hK hP hD hS 1 rfl rfl 1 (by decide) hw_1 (fun _ h9 => h9) rfl (by decide +kernel) rfl rfl (Nat.le_of_ble_eq_true rfl) dX8_append_36 (fun H locs hPa hDa hS => ?_)
  clear hP hD
  have hP : va_P (dC, dI) vwCl [(t_bytes, .inl (kB, 700, .inl (upd (upd f_t_bytes (x_t 0).toNatClampNeg (vp_nar .byte ((p0 >>> ((24 : Int32) &&& 31)).toInt8.toInt32))) ((x_t 0) + 1).toNatClampNeg (vp_nar .byte ((p0 >>> ((16 : Int32) &&& 31)).toInt8.toInt32))))), (ot, .inr (8, oX8 t_bytes (upd (upd x_t 0 ((x_t 0) + 1)) 0 (((x_t 0) + 1) + 1))))] H := hPa
  have hD : va_D A [(t_bytes, .inl (kB, 700, .inl (upd (upd f_t_bytes (x_t 0).toNatClampNeg (vp_nar .byte ((p0 >>> ((24 : Int32) &&& 31)).toInt8.toInt32))) ((x_t 0) + 1).toNatClampNeg (vp_nar .byte ((p0 >>> ((16 : Int32) &&& 31)).toInt8.toInt32))))), (ot, .inr (8, oX8 t_bytes (upd (upd x_t 0 ((x_t 0) + 1)) 0 (((x_t 0) + 1) + 1))))] := hDa
  clear hPa hDa
  refine lv_iinc (v := 8) (lv' := [(2, .int 8), (0, .ref ot), (1, .int p0)]) hx hb dX8_append_39 hl (k := 0) rfl (by decide) (Nat.le_of_ble_eq_true rfl) rfl (fun ls hl => ?_)
  refine lv_goto (tgt := 12) hx hb dX8_append_42 rfl ?_
  refine lv_iload_n hx hb dX8_append_12 rfl (lv_at hl 0 rfl) ?_
  refine lv_if_lt (tgt := 45) hx hb dX8_append_13 rfl (fun c9 => absurd c9 (by decide)) (fun _ => ?_)
  refine lv_aload_n hx hb dX8_append_16 rfl (lv_at hl 1 rfl) ?_
  refine va_get (D := (dC, dI)) (ci := 8) (v := .ref t_bytes) (C := RX8) (T := TX8) (N := 2) hx hb hts hin8 hown hK hP 1 rfl rfl 0 (Nat.le_of_ble_eq_true rfl) hw_0 (fun _ h9 => h9) rfl dX8_append_17 ?_
  refine lv_aload_n hx hb dX8_append_20 rfl (lv_at hl 1 rfl) ?_
  refine va_get (D := (dC, dI)) (ci := 8) (v := .int (((x_t 0) + 1) + 1)) (C := RX8) (T := TX8) (N := 2) hx hb hts hin8 hown hK hP 1 rfl rfl 1 (Nat.le_of_ble_eq_true rfl) hw_1 (fun _ h9 => h9) rfl dX8_append_21 ?_
  refine lv_iload_n hx hb dX8_append_24 rfl (lv_at hl 2 rfl) ?_
  refine lv_iload_n hx hb dX8_append_25 rfl (lv_at hl 0 rfl) ?_
  refine lv_ishr hx hb dX8_append_26 ?_
  refine lv_i2b (v := (p0 >>> ((8 : Int32) &&& 31)).toInt8.toInt32) hx hb dX8_append_27 rfl ?_
  refine va_bast hx hb hK hP hD hS 0 0 rfl rfl (iv_in b4 (by decide) (by decide)) dX8_append_28 (fun H locs hPa hDa hS => ?_)
  clear hP hD
  have hP : va_P (dC, dI) vwCl [(t_bytes, .inl (kB, 700, .inl (upd (upd (upd f_t_bytes (x_t 0).toNatClampNeg (vp_nar .byte ((p0 >>> ((24 : Int32) &&& 31)).toInt8.toInt32))) ((x_t 0) + 1).toNatClampNeg (vp_nar .byte ((p0 >>> ((16 : Int32) &&& 31)).toInt8.toInt32))) (((x_t 0) + 1) + 1).toNatClampNeg (vp_nar .byte ((p0 >>> ((8 : Int32) &&& 31)).toInt8.toInt32))))), (ot, .inr (8, oX8 t_bytes (upd (upd x_t 0 ((x_t 0) + 1)) 0 (((x_t 0) + 1) + 1))))] H := hPa
  have hD : va_D A [(t_bytes, .inl (kB, 700, .inl (upd (upd (upd f_t_bytes (x_t 0).toNatClampNeg (vp_nar .byte ((p0 >>> ((24 : Int32) &&& 31)).toInt8.toInt32))) ((x_t 0) + 1).toNatClampNeg (vp_nar .byte ((p0 >>> ((16 : Int32) &&& 31)).toInt8.toInt32))) (((x_t 0) + 1) + 1).toNatClampNeg (vp_nar .byte ((p0 >>> ((8 : Int32) &&& 31)).toInt8.toInt32))))), (ot, .inr (8, oX8 t_bytes (upd (upd x_t 0 ((x_t 0) + 1)) 0 (((x_t 0) + 1) + 1))))] := hDa
  clear hPa hDa
  refine lv_aload_n hx hb dX8_append_29 rfl (lv_at hl 1 rfl) ?_
  refine lv_dup hx hb dX8_append_30 rfl ?_
  refine va_get (D := (dC, dI)) (ci := 8) (v := .int (((x_t 0) + 1) + 1)) (C := RX8) (T := TX8) (N := 2) hx hb hts hin8 hown hK hP 1 rfl rfl 1 (Nat.le_of_ble_eq_true rfl) hw_1 (fun _ h9 => h9) rfl dX8_append_31 ?_
  refine lv_iconst (v := 1) hx hb dX8_append_34 ic_1 ?_
  refine lv_iadd hx hb dX8_append_35 ?_
  have b5 : iv 3 699 ((((x_t 0) + 1) + 1) + 1) := iv_add b4 ivk_1 (by decide) (by decide) (by decide) (by decide)
  refine va_put (D := (dC, dI)) (ci := 8) (v := .int ((((x_t 0) + 1) + 1) + 1)) (ty := .int) (C := RX8) (T := TX8) (N := 2) hx hb hts hin8 tyX8 tyX8_ok nmX8 hown hK hP hD hS 1 rfl rfl 1 (by decide) hw_1 (fun _ h9 => h9) rfl (by decide +kernel) rfl rfl (Nat.le_of_ble_eq_true rfl) dX8_append_36 (fun H locs hPa hDa hS => ?_)
  clear hP hD
  have hP : va_P (dC, dI) vwCl [(t_bytes, .inl (kB, 700, .inl (upd (upd (upd f_t_bytes (x_t 0).toNatClampNeg (vp_nar .byte ((p0 >>> ((24 : Int32) &&& 31)).toInt8.toInt32))) ((x_t 0) + 1).toNatClampNeg (vp_nar .byte ((p0 >>> ((16 : Int32) &&& 31)).toInt8.toInt32))) (((x_t 0) + 1) + 1).toNatClampNeg (vp_nar .byte ((p0 >>> ((8 : Int32) &&& 31)).toInt8.toInt32))))), (ot, .inr (8, oX8 t_bytes (upd (upd (upd x_t 0 ((x_t 0) + 1)) 0 (((x_t 0) + 1) + 1)) 0 ((((x_t 0) + 1) + 1) + 1))))] H := hPa
  have hD : va_D A [(t_bytes, .inl (kB, 700, .inl (upd (upd (upd f_t_bytes (x_t 0).toNatClampNeg (vp_nar .byte ((p0 >>> ((24 : Int32) &&& 31)).toInt8.toInt32))) ((x_t 0) + 1).toNatClampNeg (vp_nar .byte ((p0 >>> ((16 : Int32) &&& 31)).toInt8.toInt32))) (((x_t 0) + 1) + 1).toNatClampNeg (vp_nar .byte ((p0 >>> ((8 : Int32) &&& 31)).toInt8.toInt32))))), (ot, .inr (8, oX8 t_bytes (upd (upd (upd x_t 0 ((x_t 0) + 1)) 0 (((x_t 0) + 1) + 1)) 0 ((((x_t 0) + 1) + 1) + 1))))] := hDa
  clear hPa hDa
  refine lv_iinc (v := 0) (lv' := [(2, .int 0), (0, .ref ot), (1, .int p0)]) hx hb dX8_append_39 hl (k := 0) rfl (by decide) (Nat.le_of_ble_eq_true rfl) rfl (fun ls hl => ?_)
  refine lv_goto (tgt := 12) hx hb dX8_append_42 rfl ?_
  refine lv_iload_n hx hb dX8_append_12 rfl (lv_at hl 0 rfl) ?_
  refine lv_if_lt (tgt := 45) hx hb dX8_append_13 rfl (fun c9 => absurd c9 (by decide)) (fun _ => ?_)
  refine lv_aload_n hx hb dX8_append_16 rfl (lv_at hl 1 rfl) ?_
  refine va_get (D := (dC, dI)) (ci := 8) (v := .ref t_bytes) (C := RX8) (T := TX8) (N := 2) hx hb hts hin8 hown hK hP 1 rfl rfl 0 (Nat.le_of_ble_eq_true rfl) hw_0 (fun _ h9 => h9) rfl dX8_append_17 ?_
  refine lv_aload_n hx hb dX8_append_20 rfl (lv_at hl 1 rfl) ?_
  refine va_get (D := (dC, dI)) (ci := 8) (v := .int ((((x_t 0) + 1) + 1) + 1)) (C := RX8) (T := TX8) (N := 2) hx hb hts hin8 hown hK hP 1 rfl rfl 1 (Nat.le_of_ble_eq_true rfl) hw_1 (fun _ h9 => h9) rfl dX8_append_21 ?_
  refine lv_iload_n hx hb dX8_append_24 rfl (lv_at hl 2 rfl) ?_
  refine lv_iload_n hx hb dX8_append_25 rfl (lv_at hl 0 rfl) ?_
  refine lv_ishr hx hb dX8_append_26 ?_
  refine lv_i2b (v := (p0 >>> ((0 : Int32) &&& 31)).toInt8.toInt32) hx hb dX8_append_27 rfl ?_
  refine va_bast hx hb hK hP hD hS 0 0 rfl rfl (iv_in b5 (by decide) (by decide)) dX8_append_28 (fun H locs hPa hDa hS => ?_)
  clear hP hD
  have hP : va_P (dC, dI) vwCl [(t_bytes, .inl (kB, 700, .inl (upd (upd (upd (upd f_t_bytes (x_t 0).toNatClampNeg (vp_nar .byte ((p0 >>> ((24 : Int32) &&& 31)).toInt8.toInt32))) ((x_t 0) + 1).toNatClampNeg (vp_nar .byte ((p0 >>> ((16 : Int32) &&& 31)).toInt8.toInt32))) (((x_t 0) + 1) + 1).toNatClampNeg (vp_nar .byte ((p0 >>> ((8 : Int32) &&& 31)).toInt8.toInt32))) ((((x_t 0) + 1) + 1) + 1).toNatClampNeg (vp_nar .byte ((p0 >>> ((0 : Int32) &&& 31)).toInt8.toInt32))))), (ot, .inr (8, oX8 t_bytes (upd (upd (upd x_t 0 ((x_t 0) + 1)) 0 (((x_t 0) + 1) + 1)) 0 ((((x_t 0) + 1) + 1) + 1))))] H := hPa
  have hD : va_D A [(t_bytes, .inl (kB, 700, .inl (upd (upd (upd (upd f_t_bytes (x_t 0).toNatClampNeg (vp_nar .byte ((p0 >>> ((24 : Int32) &&& 31)).toInt8.toInt32))) ((x_t 0) + 1).toNatClampNeg (vp_nar .byte ((p0 >>> ((16 : Int32) &&& 31)).toInt8.toInt32))) (((x_t 0) + 1) + 1).toNatClampNeg (vp_nar .byte ((p0 >>> ((8 : Int32) &&& 31)).toInt8.toInt32))) ((((x_t 0) + 1) + 1) + 1).toNatClampNeg (vp_nar .byte ((p0 >>> ((0 : Int32) &&& 31)).toInt8.toInt32))))), (ot, .inr (8, oX8 t_bytes (upd (upd (upd x_t 0 ((x_t 0) + 1)) 0 (((x_t 0) + 1) + 1)) 0 ((((x_t 0) + 1) + 1) + 1))))] := hDa
  clear hPa hDa
  refine lv_aload_n hx hb dX8_append_29 rfl (lv_at hl 1 rfl) ?_
  refine lv_dup hx hb dX8_append_30 rfl ?_
  refine va_get (D := (dC, dI)) (ci := 8) (v := .int ((((x_t 0) + 1) + 1) + 1)) (C := RX8) (T := TX8) (N := 2) hx hb hts hin8 hown hK hP 1 rfl rfl 1 (Nat.le_of_ble_eq_true rfl) hw_1 (fun _ h9 => h9) rfl dX8_append_31 ?_
  refine lv_iconst (v := 1) hx hb dX8_append_34 ic_1 ?_
  refine lv_iadd hx hb dX8_append_35 ?_
  have b6 : iv 4 700 (((((x_t 0) + 1) + 1) + 1) + 1) := iv_add b5 ivk_1 (by decide) (by decide) (by decide) (by decide)
  refine va_put (D := (dC, dI)) (ci := 8) (v := .int (((((x_t 0) + 1) + 1) + 1) + 1)) (ty := .int) (C := RX8) (T := TX8) (N := 2) hx hb hts hin8 tyX8 tyX8_ok nmX8 hown hK hP hD hS 1 rfl rfl 1 (by decide) hw_1 (fun _ h9 => h9) rfl (by decide +kernel) rfl rfl (Nat.le_of_ble_eq_true rfl) dX8_append_36 (fun H locs hPa hDa hS => ?_)
  clear hP hD
  have hP : va_P (dC, dI) vwCl [(t_bytes, .inl (kB, 700, .inl (upd (upd (upd (upd f_t_bytes (x_t 0).toNatClampNeg (vp_nar .byte ((p0 >>> ((24 : Int32) &&& 31)).toInt8.toInt32))) ((x_t 0) + 1).toNatClampNeg (vp_nar .byte ((p0 >>> ((16 : Int32) &&& 31)).toInt8.toInt32))) (((x_t 0) + 1) + 1).toNatClampNeg (vp_nar .byte ((p0 >>> ((8 : Int32) &&& 31)).toInt8.toInt32))) ((((x_t 0) + 1) + 1) + 1).toNatClampNeg (vp_nar .byte ((p0 >>> ((0 : Int32) &&& 31)).toInt8.toInt32))))), (ot, .inr (8, oX8 t_bytes (upd (upd (upd (upd x_t 0 ((x_t 0) + 1)) 0 (((x_t 0) + 1) + 1)) 0 ((((x_t 0) + 1) + 1) + 1)) 0 (((((x_t 0) + 1) + 1) + 1) + 1))))] H := hPa
  have hD : va_D A [(t_bytes, .inl (kB, 700, .inl (upd (upd (upd (upd f_t_bytes (x_t 0).toNatClampNeg (vp_nar .byte ((p0 >>> ((24 : Int32) &&& 31)).toInt8.toInt32))) ((x_t 0) + 1).toNatClampNeg (vp_nar .byte ((p0 >>> ((16 : Int32) &&& 31)).toInt8.toInt32))) (((x_t 0) + 1) + 1).toNatClampNeg (vp_nar .byte ((p0 >>> ((8 : Int32) &&& 31)).toInt8.toInt32))) ((((x_t 0) + 1) + 1) + 1).toNatClampNeg (vp_nar .byte ((p0 >>> ((0 : Int32) &&& 31)).toInt8.toInt32))))), (ot, .inr (8, oX8 t_bytes (upd (upd (upd (upd x_t 0 ((x_t 0) + 1)) 0 (((x_t 0) + 1) + 1)) 0 ((((x_t 0) + 1) + 1) + 1)) 0 (((((x_t 0) + 1) + 1) + 1) + 1))))] := hDa
  clear hPa hDa
  refine lv_iinc (v := (-8)) (lv' := [(2, .int (-8)), (0, .ref ot), (1, .int p0)]) hx hb dX8_append_39 hl (k := 0) rfl (by decide) (Nat.le_of_ble_eq_true rfl) rfl (fun ls hl => ?_)
  refine lv_goto (tgt := 12) hx hb dX8_append_42 rfl ?_
  refine lv_iload_n hx hb dX8_append_12 rfl (lv_at hl 0 rfl) ?_
  refine lv_if_lt (tgt := 45) hx hb dX8_append_13 rfl (fun _ => ?_) (fun c9 => absurd (by decide) c9)
  have hPD9 := cl_s (wc := [(ot, .inr (8, oX8 t_bytes (upd (upd (upd (upd x_t 0 ((x_t 0) + 1)) 0 (((x_t 0) + 1) + 1)) 0 ((((x_t 0) + 1) + 1) + 1)) 0 (((((x_t 0) + 1) + 1) + 1) + 1)))), (t_bytes, .inl (kB, 700, .inl (upd (upd (upd (upd f_t_bytes (x_t 0).toNatClampNeg (vp_nar .byte ((p0 >>> ((24 : Int32) &&& 31)).toInt8.toInt32))) ((x_t 0) + 1).toNatClampNeg (vp_nar .byte ((p0 >>> ((16 : Int32) &&& 31)).toInt8.toInt32))) (((x_t 0) + 1) + 1).toNatClampNeg (vp_nar .byte ((p0 >>> ((8 : Int32) &&& 31)).toInt8.toInt32))) ((((x_t 0) + 1) + 1) + 1).toNatClampNeg (vp_nar .byte ((p0 >>> ((0 : Int32) &&& 31)).toInt8.toInt32)))))]) hP hD [1, 0] rfl (by decide +kernel)
  have hP9 := hPD9.1
  have hD9 := hPD9.2
  exact W.vret hx hb hr (fun t ht hW => ⟨⟨(), rfl, trivial, upd (upd (upd (upd x_t 0 ((x_t 0) + 1)) 0 (((x_t 0) + 1) + 1)) 0 ((((x_t 0) + 1) + 1) + 1)) 0 (((((x_t 0) + 1) + 1) + 1) + 1), upd (upd (upd (upd f_t_bytes (x_t 0).toNatClampNeg (vp_nar .byte ((p0 >>> ((24 : Int32) &&& 31)).toInt8.toInt32))) ((x_t 0) + 1).toNatClampNeg (vp_nar .byte ((p0 >>> ((16 : Int32) &&& 31)).toInt8.toInt32))) (((x_t 0) + 1) + 1).toNatClampNeg (vp_nar .byte ((p0 >>> ((8 : Int32) &&& 31)).toInt8.toInt32))) ((((x_t 0) + 1) + 1) + 1).toNatClampNeg (vp_nar .byte ((p0 >>> ((0 : Int32) &&& 31)).toInt8.toInt32)), (fI_u (fI_u (fI_u (fI_u hx_t (k := 0) ((iv_w b3 (by decide) (by decide)))) (k := 0) ((iv_w b4 (by decide) (by decide)))) (k := 0) ((iv_w b5 (by decide) (by decide)))) (k := 0) ((iv_w b6 (by decide) (by decide)))), (fI_u (fI_u (fI_u (fI_u hf_t_bytes (k := (x_t 0).toNatClampNeg) (nar_iv _)) (k := ((x_t 0) + 1).toNatClampNeg) (nar_iv _)) (k := (((x_t 0) + 1) + 1).toNatClampNeg) (nar_iv _)) (k := ((((x_t 0) + 1) + 1) + 1).toNatClampNeg) (nar_iv _)), (show (((((x_t 0) + 1) + 1) + 1) + 1).toInt = (x_t 0).toInt + 4 from t4_4 hfl), (show ((((x_t 0) + 1) + 1) + 1) + 1 = t4T (x_t 0) from rfl), rfl, by rw [ht]; exact hP9, hD9⟩, hS.F ht⟩) hS.2.2 dX8_append_45
