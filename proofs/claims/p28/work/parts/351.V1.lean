def rm_s8_append_x : Room := { frames := 1, cells := 0, slots := 0, locals := 21 }
set_option maxHeartbeats 4000000 in
set_option maxRecDepth 100000 in
theorem s8_append_x (l : Launch) (dC : Nat → ClassId) (dI : Nat → Nat → Nat) (kB kI kJ kZ kC kS : ClassId) (sz : Nat) (ot : Nat) (t_bytes : Nat) (x_t : Nat → Int32) (f_t_bytes : Nat → Int32) (p0 : Int32) (hx_t : fI lX8 hX8 x_t) (hf_t_bytes : fI (fun _ => (-128)) (fun _ => 127) f_t_bytes) (hfl : iv 0 696 (x_t 0)) : Met l yX8_append wsX8_append rm_s8_append_x (va_Pc [.ref ot, .int p0] (fun U => U.heap.size = sz ∧ va_P (dC, dI) vwCl [(ot, .inr (8, oX8 t_bytes x_t)), (t_bytes, .inl (kB, 700, .inl f_t_bytes))] U.heap ∧ kE dC dI kB kI kJ kZ kC kS U ∧ va_D (fun _ => True) [(ot, .inr (8, oX8 t_bytes x_t)), (t_bytes, .inl (kB, 700, .inl f_t_bytes))])) (va_Qv (fun (_ : Unit) => True) (fun _ t => ∃ (x_t' : Nat → Int32) (f_t_bytes' : Nat → Int32), fI lX8 hX8 x_t' ∧ fI (fun _ => (-128)) (fun _ => 127) f_t_bytes' ∧ ((x_t' 0).toInt = (x_t 0).toInt + 4) ∧ (x_t' 0 = t4T (x_t 0)) ∧ (f_t_bytes' = apC f_t_bytes (x_t 0) p0) ∧ va_P (dC, dI) vwCl [(ot, .inr (8, oX8 t_bytes x_t')), (t_bytes, .inl (kB, 700, .inl f_t_bytes'))] t.heap ∧ va_D (va_A [(ot, .inr (8, oX8 t_bytes x_t)), (t_bytes, .inl (kB, 700, .inl f_t_bytes))] sz) [(ot, .inr (8, oX8 t_bytes x_t')), (t_bytes, .inl (kB, 700, .inl f_t_bytes'))]) (va_A [(ot, .inr (8, oX8 t_bytes x_t)), (t_bytes, .inl (kB, 700, .inl f_t_bytes))] sz)) 0 0 (va_A [(ot, .inr (8, oX8 t_bytes x_t)), (t_bytes, .inl (kB, 700, .inl f_t_bytes))] sz) := by
  refine Met.ofW (cc := cX8_append) (maxL := 3) (ret := none) (by decide) rfl ?_
  intro p e s m args0 below meth c s₁ B hml hv
  obtain ⟨hargs, hsz, hP, hE, hD0⟩ := hv
  have hx := B.exec
  have hb := B.bytes
  have hr := B.returns
  have hts := atoms_spec (ws := wsX8_append) B.pre
  have hown : s.vm.findClass RX8 = some m.cls := findClass_of_methodNamed B.named
  have hlocks := B.notSynchronized
  have hK := hE.1
  have hin8 : ∀ w ∈ wsX80, w ∈ wsX8_append := fun _ h9 => List.mem_cons_of_mem _ (List.mem_append_right _ h9)
  have hw_0 := hts (.fieldLink RX8 9 "PathProber$Tape" "bytes" "[B") (List.mem_of_getElem? (i := 1) rfl)
  have hw_1 := hts (.fieldLink RX8 15 "PathProber$Tape" "length" "I") (List.mem_of_getElem? (i := 2) rfl)
  subst hsz
  have hD := hD0.self (sz := s.heap.size)
  generalize hAe : va_A [(ot, .inr (8, oX8 t_bytes x_t)), (t_bytes, .inl (kB, 700, .inl f_t_bytes))] s.heap.size = A at hD ⊢
  have hA : ∀ q : Nat, s.heap.size ≤ q → A q := fun q h => by rw [← hAe]; exact Or.inr h
  have hS : va_S A s.heap s.heap [] := va_S.rf
  have hP : va_P (dC, dI) vwCl [(ot, .inr (8, oX8 t_bytes x_t)), (t_bytes, .inl (kB, 700, .inl f_t_bytes))] s.heap := hP
  have hl := lv_entry ([.ref ot, .int p0]) (n := 3) (Nat.le_of_ble_eq_true rfl)
  have hla : entryFrame m args0 3 = entryFrame m ([.ref ot, .int p0] : List Value).toArray 3 := by rw [hargs]
  rw [hla, lg_entry_eq]
  generalize (lg_sl ([.ref ot, .int p0]) ++ List.replicate (3 - (lg_sl ([.ref ot, .int p0])).length) Slot.unset).toArray = ls at hl ⊢
  have hl : lv_has ls 3 [(0, .ref ot), (1, .int p0)] := hl
  refine lv_aload_n hx hb dX8_append_0 rfl (lv_at hl 0 rfl) ?_
  refine lv_iconst (v := 4) hx hb dX8_append_1 ic_4 ?_
  obtain ⟨hPc, hDc, hFc, hJn⟩ := cl_a (wc := [(ot, .inr (8, oX8 t_bytes x_t))]) (wr := [(t_bytes, .inl (kB, 700, .inl f_t_bytes))]) hP hD hS hA [0] [1] rfl rfl (by decide +kernel)
  refine va_calli (va_runV (As := [.int 4]) (rest := []) ⟨hx, hb, hml, hown, hts⟩ (s8_hasRoomFor_4 l dC dI kB kI kJ kZ kC kS s.heap.size ot t_bytes x_t (hx_t) (hfl)) (cwV 1 hts gX8_append_X8_hasRoomFor rfl rfl rfl (by decide +kernel) ⟨Nat.le_of_ble_eq_true rfl, Nat.le_of_ble_eq_true rfl⟩) ⟨fun a U g mk q => by obtain ⟨q0, q1, qP, qE, qD⟩ := q; exact ⟨q0, q1, qP, kE_call qE, qD⟩, va_recv hK hP (ci := 8) (q0 := 0) rfl rfl, fun U hU hW => ⟨rfl, by rw [hU], by rw [hU]; exact hPc, kE_warm hW hE, hDc.weaken (fun _ _ _ _ => trivial)⟩⟩ rfl rfl hl.1 rfl (lv_room (Nat.le_of_ble_eq_true rfl)) dX8_append_2 ⟨Nat.le_of_ble_eq_true rfl, Nat.le_of_ble_eq_true rfl⟩) hS (fun q _ h => hFc q h) hFc (fun r1 u t H locs ht hvm w2 hB hz1 hk1 hS => ?_)
  obtain ⟨hP1, hD1⟩ := hB
  try dsimp only at w2
  obtain ⟨hPa, hDa⟩ := hJn (w1 := [(ot, .inr (8, oX8 t_bytes x_t))]) hk1 ht hP1 hD1
  clear hP hD hPc hDc hFc hJn hP1 hD1 hk1
  have hP : va_P (dC, dI) vwCl [(t_bytes, .inl (kB, 700, .inl f_t_bytes)), (ot, .inr (8, oX8 t_bytes x_t))] H := hPa
  have hD : va_D A [(t_bytes, .inl (kB, 700, .inl f_t_bytes)), (ot, .inr (8, oX8 t_bytes x_t))] := hDa
  clear hPa hDa
  refine W.widen (k := 0) (n := 0) (Nat.le_of_ble_eq_true rfl) (Nat.le_of_ble_eq_true rfl) ?_
  obtain rfl : r1 = 1 := iv_one w2 (by decide)
  refine lv_if_ne (tgt := 9) hx hb dX8_append_5 rfl (fun _ => ?_) (fun c9 => absurd c9 (by decide))
  refine lv_bipush (v := 24) hx hb dX8_append_9 bp_24 ?_
  refine lv_istore_n (lv' := [(2, .int 24), (0, .ref ot), (1, .int p0)]) hx hb dX8_append_11 rfl hl (Nat.le_of_ble_eq_true rfl) rfl (fun ls hl => ?_)
  refine lv_iload_n hx hb dX8_append_12 rfl (lv_at hl 0 rfl) ?_
  refine lv_if_lt (tgt := 45) hx hb dX8_append_13 rfl (fun c9 => absurd c9 (by decide)) (fun _ => ?_)
  refine lv_aload_n hx hb dX8_append_16 rfl (lv_at hl 1 rfl) ?_
  refine va_get (D := (dC, dI)) (ci := 8) (v := .ref t_bytes) (C := RX8) (T := TX8) (N := 2) hx hb hts hin8 hown hK hP 1 rfl rfl 0 (Nat.le_of_ble_eq_true rfl) hw_0 (fun _ h9 => h9) rfl dX8_append_17 ?_
  refine lv_aload_n hx hb dX8_append_20 rfl (lv_at hl 1 rfl) ?_
  refine va_get (D := (dC, dI)) (ci := 8) (v := .int (x_t 0)) (C := RX8) (T := TX8) (N := 2) hx hb hts hin8 hown hK hP 1 rfl rfl 1 (Nat.le_of_ble_eq_true rfl) hw_1 (fun _ h9 => h9) rfl dX8_append_21 ?_
  refine lv_iload_n hx hb dX8_append_24 rfl (lv_at hl 2 rfl) ?_
  refine lv_iload_n hx hb dX8_append_25 rfl (lv_at hl 0 rfl) ?_
  refine lv_ishr hx hb dX8_append_26 ?_
  refine lv_i2b (v := (p0 >>> ((24 : Int32) &&& 31)).toInt8.toInt32) hx hb dX8_append_27 rfl ?_
  refine va_bast hx hb hK hP hD hS 0 0 rfl rfl (iv_in hfl (by decide) (by decide)) dX8_append_28 (fun H locs hPa hDa hS => ?_)
  clear hP hD
  have hP : va_P (dC, dI) vwCl [(t_bytes, .inl (kB, 700, .inl (upd f_t_bytes (x_t 0).toNatClampNeg (vp_nar .byte ((p0 >>> ((24 : Int32) &&& 31)).toInt8.toInt32))))), (ot, .inr (8, oX8 t_bytes x_t))] H := hPa
  have hD : va_D A [(t_bytes, .inl (kB, 700, .inl (upd f_t_bytes (x_t 0).toNatClampNeg (vp_nar .byte ((p0 >>> ((24 : Int32) &&& 31)).toInt8.toInt32))))), (ot, .inr (8, oX8 t_bytes x_t))] := hDa
  clear hPa hDa
  refine lv_aload_n hx hb dX8_append_29 rfl (lv_at hl 1 rfl) ?_
  refine lv_dup hx hb dX8_append_30 rfl ?_
  refine va_get (D := (dC, dI)) (ci := 8) (v := .int (x_t 0)) (C := RX8) (T := TX8) (N := 2) hx hb hts hin8 hown hK hP 1 rfl rfl 1 (Nat.le_of_ble_eq_true rfl) hw_1 (fun _ h9 => h9) rfl dX8_append_31 ?_
  refine lv_iconst (v := 1) hx hb dX8_append_34 ic_1 ?_
  refine lv_iadd hx hb dX8_append_35 ?_
  have b3 : iv 1 697 ((x_t 0) + 1) := iv_add hfl ivk_1 (by decide) (by decide) (by decide) (by decide)
  refine va_put (D := (dC, dI)) (ci := 8) (v := .int ((x_t 0) + 1)) (ty := .int) (C := RX8) (T := TX8) (N := 2) hx hb hts hin8 tyX8 tyX8_ok nmX8 hown hK hP hD hS 1 rfl rfl 1 (by decide) hw_1 (fun _ h9 => h9) rfl (by decide +kernel) rfl rfl (Nat.le_of_ble_eq_true rfl) dX8_append_36 (fun H locs hPa hDa hS => ?_)
  clear hP hD
  have hP : va_P (dC, dI) vwCl [(t_bytes, .inl (kB, 700, .inl (upd f_t_bytes (x_t 0).toNatClampNeg (vp_nar .byte ((p0 >>> ((24 : Int32) &&& 31)).toInt8.toInt32))))), (ot, .inr (8, oX8 t_bytes (upd x_t 0 ((x_t 0) + 1))))] H := hPa
  have hD : va_D A [(t_bytes, .inl (kB, 700, .inl (upd f_t_bytes (x_t 0).toNatClampNeg (vp_nar .byte ((p0 >>> ((24 : Int32) &&& 31)).toInt8.toInt32))))), (ot, .inr (8, oX8 t_bytes (upd x_t 0 ((x_t 0) + 1))))] := hDa
  clear hPa hDa
  refine lv_iinc (v := 16) (lv' := [(2, .int 16), (0, .ref ot), (1, .int p0)]) hx hb dX8_append_39 hl (k := 0) rfl (by decide) (Nat.le_of_ble_eq_true rfl) rfl (fun ls hl => ?_)
  refine lv_goto (tgt := 12) hx hb dX8_append_42 rfl ?_
  refine lv_iload_n hx hb dX8_append_12 rfl (lv_at hl 0 rfl) ?_
  refine lv_if_lt (tgt := 45) hx hb dX8_append_13 rfl (fun c9 => absurd c9 (by decide)) (fun _ => ?_)
  refine lv_aload_n hx hb dX8_append_16 rfl (lv_at hl 1 rfl) ?_
  refine va_get (D := (dC, dI)) (ci := 8) (v := .ref t_bytes) (C := RX8) (T := TX8) (N := 2) hx hb hts hin8 hown hK hP 1 rfl rfl 0 (Nat.le_of_ble_eq_true rfl) hw_0 (fun _ h9 => h9) rfl dX8_append_17 ?_
  refine lv_aload_n hx hb dX8_append_20 rfl (lv_at hl 1 rfl) ?_
  refine va_get (D := (dC, dI)) (ci := 8) (v := .int ((x_t 0) + 1)) (C := RX8) (T := TX8) (N := 2) hx hb hts hin8 hown hK hP 1 rfl rfl 1 (Nat.le_of_ble_eq_true rfl) hw_1 (fun _ h9 => h9) rfl dX8_append_21 ?_
  refine lv_iload_n hx hb dX8_append_24 rfl (lv_at hl 2 rfl) ?_
  refine lv_iload_n hx hb dX8_append_25 rfl (lv_at hl 0 rfl) ?_
  refine lv_ishr hx hb dX8_append_26 ?_
  refine lv_i2b (v := (p0 >>> ((16 : Int32) &&& 31)).toInt8.toInt32) hx hb dX8_append_27 rfl ?_
  refine va_bast hx hb hK hP hD hS 0 0 rfl rfl (iv_in b3 (by decide) (by decide)) dX8_append_28 (fun H locs hPa hDa hS => ?_)
  clear hP hD
  have hP : va_P (dC, dI) vwCl [(t_bytes, .inl (kB, 700, .inl (upd (upd f_t_bytes (x_t 0).toNatClampNeg (vp_nar .byte ((p0 >>> ((24 : Int32) &&& 31)).toInt8.toInt32))) ((x_t 0) + 1).toNatClampNeg (vp_nar .byte ((p0 >>> ((16 : Int32) &&& 31)).toInt8.toInt32))))), (ot, .inr (8, oX8 t_bytes (upd x_t 0 ((x_t 0) + 1))))] H := hPa
  have hD : va_D A [(t_bytes, .inl (kB, 700, .inl (upd (upd f_t_bytes (x_t 0).toNatClampNeg (vp_nar .byte ((p0 >>> ((24 : Int32) &&& 31)).toInt8.toInt32))) ((x_t 0) + 1).toNatClampNeg (vp_nar .byte ((p0 >>> ((16 : Int32) &&& 31)).toInt8.toInt32))))), (ot, .inr (8, oX8 t_bytes (upd x_t 0 ((x_t 0) + 1))))] := hDa
  clear hPa hDa
  refine lv_aload_n hx hb dX8_append_29 rfl (lv_at hl 1 rfl) ?_
  refine lv_dup hx hb dX8_append_30 rfl ?_
  refine va_get (D := (dC, dI)) (ci := 8) (v := .int ((x_t 0) + 1)) (C := RX8) (T := TX8) (N := 2) hx hb hts hin8 hown hK hP 1 rfl rfl 1 (Nat.le_of_ble_eq_true rfl) hw_1 (fun _ h9 => h9) rfl dX8_append_31 ?_
  refine lv_iconst (v := 1) hx hb dX8_append_34 ic_1 ?_
  refine lv_iadd hx hb dX8_append_35 ?_
  have b4 : iv 2 698 (((x_t 0) + 1) + 1) := iv_add b3 ivk_1 (by decide) (by decide) (by decide) (by decide)
  refine va_put (D := (dC, dI)) (ci := 8) (v := .int (((x_t 0) + 1) + 1)) (ty := .int) (C := RX8) (T := TX8) (N := 2) hx hb hts hin8 tyX8 tyX8_ok nmX8 hown hK hP hD hS 1 rfl rfl 1 (by decide) hw_1 (fun _ h9 => h9) rfl (by decide +kernel) rfl rfl (Nat.le_of_ble_eq_true rfl) dX8_append_36 (fun H locs hPa hDa hS => ?_)
  clear hP hD
  have hP : va_P (dC, dI) vwCl [(t_bytes, .inl (kB, 700, .inl (upd (upd f_t_bytes (x_t 0).toNatClampNeg (vp_nar .byte ((p0 >>> ((24 : Int32) &&& 31)).toInt8.toInt32))) ((x_t 0) + 1).toNatClampNeg (vp_nar .byte ((p0 >>> ((16 : Int32) &&& 31)).toInt8.toInt32))))), (ot, .inr (8, oX8 t_bytes (upd (upd x_t 0 ((x_t 0) + 1)) 0 (((x_t 0) + 1) + 1))))] H := hPa
  have hD : va_D A [(t_bytes, .inl (kB, 700, .inl (upd (upd f_t_bytes (x_t 0).toNatClampNeg (vp_nar .byte ((p0 >>> ((24 : Int32) &&& 31)).toInt8.toInt32))) ((x_t 0) + 1).toNatClampNeg (vp_nar .byte ((p0 >>> ((16 : Int32) &&& 31)).toInt8.toInt32))))), (ot, .inr (8, oX8 t_bytes (upd (upd x_t 0 ((x_t 0) + 1)) 0 (((x_t 0) + 1) + 1))))] := hDa
  clear hPa hDa
  refine lv_iinc (v := 8) (lv' := [(2, .int 8), (0, .ref ot), (1, .int p0)]) hx hb dX8_append_39 hl (k := 0) rfl (by decide) (Nat.le_of_ble_eq_true rfl) rfl (fun ls hl => ?_)
  refine lv_goto (tgt := 12) hx hb dX8_append_42 rfl ?_
  refine lv_iload_n hx hb dX8_append_12 rfl (lv_at hl 0 rfl) ?_
  refine lv_if_lt (tgt := 45) hx hb dX8_append_13 rfl (fun c9 => absurd c9 (by decide)) (fun _ => ?_)
  refine lv_aload_n hx hb dX8_append_16 rfl (lv_at hl 1 rfl) ?_
  refine va_get (D := (dC, dI)) (ci := 8) (v := .ref t_bytes) (C := RX8) (T := TX8) (N := 2) hx hb hts hin8 hown hK hP 1 rfl rfl 0 (Nat.le_of_ble_eq_true rfl) hw_0 (fun _ h9 => h9) rfl dX8_append_17 ?_
  refine lv_aload_n hx hb dX8_append_20 rfl (lv_at hl 1 rfl) ?_
  refine va_get (D := (dC, dI)) (ci := 8) (v := .int (((x_t 0) + 1) + 1)) (C := RX8) (T := TX8) (N := 2) hx hb hts hin8 hown hK hP 1 rfl rfl 1 (Nat.le_of_ble_eq_true rfl) hw_1 (fun _ h9 => h9) rfl dX8_append_21 ?_
  refine lv_iload_n hx hb dX8_append_24 rfl (lv_at hl 2 rfl) ?_
  refine lv_iload_n hx hb dX8_append_25 rfl (lv_at hl 0 rfl) ?_
  refine lv_ishr hx hb dX8_append_26 ?_
  refine lv_i2b (v := (p0 >>> ((8 : Int32) &&& 31)).toInt8.toInt32) hx hb dX8_append_27 rfl ?_
  refine va_bast hx hb hK hP hD hS 0 0 rfl rfl (iv_in b4 (by decide) (by decide)) dX8_append_28 (fun H locs hPa hDa hS => ?_)
  clear hP hD
  have hP : va_P (dC, dI) vwCl [(t_bytes, .inl (kB, 700, .inl (upd (upd (upd f_t_bytes (x_t 0).toNatClampNeg (vp_nar .byte ((p0 >>> ((24 : Int32) &&& 31)).toInt8.toInt32))) ((x_t 0) + 1).toNatClampNeg (vp_nar .byte ((p0 >>> ((16 : Int32) &&& 31)).toInt8.toInt32))) (((x_t 0) + 1) + 1).toNatClampNeg (vp_nar .byte ((p0 >>> ((8 : Int32) &&& 31)).toInt8.toInt32))))), (ot, .inr (8, oX8 t_bytes (upd (upd x_t 0 ((x_t 0) + 1)) 0 (((x_t 0) + 1) + 1))))] H := hPa
  have hD : va_D A [(t_bytes, .inl (kB, 700, .inl (upd (upd (upd f_t_bytes (x_t 0).toNatClampNeg (vp_nar .byte ((p0 >>> ((24 : Int32) &&& 31)).toInt8.toInt32))) ((x_t 0) + 1).toNatClampNeg (vp_nar .byte ((p0 >>> ((16 : Int32) &&& 31)).toInt8.toInt32))) (((x_t 0) + 1) + 1).toNatClampNeg (vp_nar .byte ((p0 >>> ((8 : Int32) &&& 31)).toInt8.toInt32))))), (ot, .inr (8, oX8 t_bytes (upd (upd x_t 0 ((x_t 0) + 1)) 0 (((x_t 0) + 1) + 1))))] := hDa
  clear hPa hDa
  refine lv_aload_n hx hb dX8_append_29 rfl (lv_at hl 1 rfl) ?_
  refine lv_dup hx hb dX8_append_30 rfl ?_
  refine va_get (D := (dC, dI)) (ci := 8) (v := .int (((x_t 0) + 1) + 1)) (C := RX8) (T := TX8) (N := 2) hx hb hts hin8 hown hK hP 1 rfl rfl 1 (Nat.le_of_ble_eq_true rfl) hw_1 (fun _ h9 => h9) rfl dX8_append_31 ?_
  refine lv_iconst (v := 1) hx hb dX8_append_34 ic_1 ?_
  refine lv_iadd hx hb dX8_append_35 ?_
  have b5 : iv 3 699 ((((x_t 0) + 1) + 1) + 1) := iv_add b4 ivk_1 (by decide) (by decide) (by decide) (by decide)
  refine va_put (D := (dC, dI)) (ci := 8) (v := .int ((((x_t 0) + 1) + 1) + 1)) (ty := .int) (C := RX8) (T := TX8) (N := 2) hx hb hts hin8 tyX8 tyX8_ok nmX8 hown hK hP hD hS 1 rfl rfl 1 (by decide) hw_1 (fun _ h9 => h9) rfl (by decide +kernel) rfl rfl (Nat.le_of_ble_eq_true rfl) dX8_append_36 (fun H locs hPa hDa hS => ?_)
  clear hP hD
  have hP : va_P (dC, dI) vwCl [(t_bytes, .inl (kB, 700, .inl (upd (upd (upd f_t_bytes (x_t 0).toNatClampNeg (vp_nar .byte ((p0 >>> ((24 : Int32) &&& 31)).toInt8.toInt32))) ((x_t 0) + 1).toNatClampNeg (vp_nar .byte ((p0 >>> ((16 : Int32) &&& 31)).toInt8.toInt32))) (((x_t 0) + 1) + 1).toNatClampNeg (vp_nar .byte ((p0 >>> ((8 : Int32) &&& 31)).toInt8.toInt32))))), (ot, .inr (8, oX8 t_bytes (upd (upd (upd x_t 0 ((x_t 0) + 1)) 0 (((x_t 0) + 1) + 1)) 0 ((((x_t 0) + 1) + 1) + 1))))] H := hPa
  have hD : va_D A [(t_bytes, .inl (kB, 700, .inl (upd (upd (upd f_t_bytes (x_t 0).toNatClampNeg (vp_nar .byte ((p0 >>> ((24 : Int32) &&& 31)).toInt8.toInt32))) ((x_t 0) + 1).toNatClampNeg (vp_nar .byte ((p0 >>> ((16 : Int32) &&& 31)).toInt8.toInt32))) (((x_t 0) + 1) + 1).toNatClampNeg (vp_nar .byte ((p0 >>> ((8 : Int32) &&& 31)).toInt8.toInt32))))), (ot, .inr (8, oX8 t_bytes (upd (upd (upd x_t 0 ((x_t 0) + 1)) 0 (((x_t 0) + 1) + 1)) 0 ((((x_t 0) + 1) + 1) + 1))))] := hDa
  clear hPa hDa
  refine lv_iinc (v := 0) (lv' := [(2, .int 0), (0, .ref ot), (1, .int p0)]) hx hb dX8_append_39 hl (k := 0) rfl (by decide) (Nat.le_of_ble_eq_true rfl) rfl (fun ls hl => ?_)
  refine lv_goto (tgt := 12) hx hb dX8_append_42 rfl ?_
  refine lv_iload_n hx hb dX8_append_12 rfl (lv_at hl 0 rfl) ?_
  refine lv_if_lt (tgt := 45) hx hb dX8_append_13 rfl (fun c9 => absurd c9 (by decide)) (fun _ => ?_)
  refine lv_aload_n hx hb dX8_append_16 rfl (lv_at hl 1 rfl) ?_
  refine va_get (D := (dC, dI)) (ci := 8) (v := .ref t_bytes) (C := RX8) (T := TX8) (N := 2) hx hb hts hin8 hown hK hP 1 rfl rfl 0 (Nat.le_of_ble_eq_true rfl) hw_0 (fun _ h9 => h9) rfl dX8_append_17 ?_
  refine lv_aload_n hx hb dX8_append_20 rfl (lv_at hl 1 rfl) ?_
  refine va_get (D := (dC, dI)) (ci := 8) (v := .int ((((x_t 0) + 1) + 1) + 1)) (C := RX8) (T := TX8) (N := 2) hx hb hts hin8 hown hK hP 1 rfl rfl 1 (Nat.le_of_ble_eq_true rfl) hw_1 (fun _ h9 => h9) rfl dX8_append_21 ?_
  refine lv_iload_n hx hb dX8_append_24 rfl (lv_at hl 2 rfl) ?_
  refine lv_iload_n hx hb dX8_append_25 rfl (lv_at hl 0 rfl) ?_
  refine lv_ishr hx hb dX8_append_26 ?_
  refine lv_i2b (v := (p0 >>> ((0 : Int32) &&& 31)).toInt8.toInt32) hx hb dX8_append_27 rfl ?_
  refine va_bast hx hb hK hP hD hS 0 0 rfl rfl (iv_in b5 (by decide) (by decide)) dX8_append_28 (fun H locs hPa hDa hS => ?_)
  clear hP hD
  have hP : va_P (dC, dI) vwCl [(t_bytes, .inl (kB, 700, .inl (upd (upd (upd (upd f_t_bytes (x_t 0).toNatClampNeg (vp_nar .byte ((p0 >>> ((24 : Int32) &&& 31)).toInt8.toInt32))) ((x_t 0) + 1).toNatClampNeg (vp_nar .byte ((p0 >>> ((16 : Int32) &&& 31)).toInt8.toInt32))) (((x_t 0) + 1) + 1).toNatClampNeg (vp_nar .byte ((p0 >>> ((8 : Int32) &&& 31)).toInt8.toInt32))) ((((x_t 0) + 1) + 1) + 1).toNatClampNeg (vp_nar .byte ((p0 >>> ((0 : Int32) &&& 31)).toInt8.toInt32))))), (ot, .inr (8, oX8 t_bytes (upd (upd (upd x_t 0 ((x_t 0) + 1)) 0 (((x_t 0) + 1) + 1)) 0 ((((x_t 0) + 1) + 1) + 1))))] H := hPa
  have hD : va_D A [(t_bytes, .inl (kB, 700, .inl (upd (upd (upd (upd f_t_bytes (x_t 0).toNatClampNeg (vp_nar .byte ((p0 >>> ((24 : Int32) &&& 31)).toInt8.toInt32))) ((x_t 0) + 1).toNatClampNeg (vp_nar .byte ((p0 >>> ((16 : Int32) &&& 31)).toInt8.toInt32))) (((x_t 0) + 1) + 1).toNatClampNeg (vp_nar .byte ((p0 >>> ((8 : Int32) &&& 31)).toInt8.toInt32))) ((((x_t 0) + 1) + 1) + 1).toNatClampNeg (vp_nar .byte ((p0 >>> ((0 : Int32) &&& 31)).toInt8.toInt32))))), (ot, .inr (8, oX8 t_bytes (upd (upd (upd x_t 0 ((x_t 0) + 1)) 0 (((x_t 0) + 1) + 1)) 0 ((((x_t 0) + 1) + 1) + 1))))] := hDa
  clear hPa hDa
  refine lv_aload_n hx hb dX8_append_29 rfl (lv_at hl 1 rfl) ?_
  refine lv_dup hx hb dX8_append_30 rfl ?_
  refine va_get (D := (dC, dI)) (ci := 8) (v := .int ((((x_t 0) + 1) + 1) + 1)) (C := RX8) (T := TX8) (N := 2) hx hb hts hin8 hown hK hP 1 rfl rfl 1 (Nat.le_of_ble_eq_true rfl) hw_1 (fun _ h9 => h9) rfl dX8_append_31 ?_
  refine lv_iconst (v := 1) hx hb dX8_append_34 ic_1 ?_
  refine lv_iadd hx hb dX8_append_35 ?_
  have b6 : iv 4 700 (((((x_t 0) + 1) + 1) + 1) + 1) := iv_add b5 ivk_1 (by decide) (by decide) (by decide) (by decide)
  refine va_put (D := (dC, dI)) (ci := 8) (v := .int (((((x_t 0) + 1) + 1) + 1) + 1)) (ty := .int) (C := RX8) (T := TX8) (N := 2) hx hb hts hin8 tyX8 tyX8_ok nmX8 hown hK hP hD hS 1 rfl rfl 1 (by decide) hw_1 (fun _ h9 => h9) rfl (by decide +kernel) rfl rfl (Nat.le_of_ble_eq_true rfl) dX8_append_36 (fun H locs hPa hDa hS => ?_)
  clear hP hD
  have hP : va_P (dC, dI) vwCl [(t_bytes, .inl (kB, 700, .inl (upd (upd (upd (upd f_t_bytes (x_t 0).toNatClampNeg (vp_nar .byte ((p0 >>> ((24 : Int32) &&& 31)).toInt8.toInt32))) ((x_t 0) + 1).toNatClampNeg (vp_nar .byte ((p0 >>> ((16 : Int32) &&& 31)).toInt8.toInt32))) (((x_t 0) + 1) + 1).toNatClampNeg (vp_nar .byte ((p0 >>> ((8 : Int32) &&& 31)).toInt8.toInt32))) ((((x_t 0) + 1) + 1) + 1).toNatClampNeg (vp_nar .byte ((p0 >>> ((0 : Int32) &&& 31)).toInt8.toInt32))))), (ot, .inr (8, oX8 t_bytes (upd (upd (upd (upd x_t 0 ((x_t 0) + 1)) 0 (((x_t 0) + 1) + 1)) 0 ((((x_t 0) + 1) + 1) + 1)) 0 (((((x_t 0) + 1) + 1) + 1) + 1))))] H := hPa
  have hD : va_D A [(t_bytes, .inl (kB, 700, .inl (upd (upd (upd (upd f_t_bytes (x_t 0).toNatClampNeg (vp_nar .byte ((p0 >>> ((24 : Int32) &&& 31)).toInt8.toInt32))) ((x_t 0) + 1).toNatClampNeg (vp_nar .byte ((p0 >>> ((16 : Int32) &&& 31)).toInt8.toInt32))) (((x_t 0) + 1) + 1).toNatClampNeg (vp_nar .byte ((p0 >>> ((8 : Int32) &&& 31)).toInt8.toInt32))) ((((x_t 0) + 1) + 1) + 1).toNatClampNeg (vp_nar .byte ((p0 >>> ((0 : Int32) &&& 31)).toInt8.toInt32))))), (ot, .inr (8, oX8 t_bytes (upd (upd (upd (upd x_t 0 ((x_t 0) + 1)) 0 (((x_t 0) + 1) + 1)) 0 ((((x_t 0) + 1) + 1) + 1)) 0 (((((x_t 0) + 1) + 1) + 1) + 1))))] := hDa
  clear hPa hDa
  refine lv_iinc (v := (-8)) (lv' := [(2, .int (-8)), (0, .ref ot), (1, .int p0)]) hx hb dX8_append_39 hl (k := 0) rfl (by decide) (Nat.le_of_ble_eq_true rfl) rfl (fun ls hl => ?_)
  refine lv_goto (tgt := 12) hx hb dX8_append_42 rfl ?_
  refine lv_iload_n hx hb dX8_append_12 rfl (lv_at hl 0 rfl) ?_
  refine lv_if_lt (tgt := 45) hx hb dX8_append_13 rfl (fun _ => ?_) (fun c9 => absurd (by decide) c9)
  have hPD9 := cl_s (wc := [(ot, .inr (8, oX8 t_bytes (upd (upd (upd (upd x_t 0 ((x_t 0) + 1)) 0 (((x_t 0) + 1) + 1)) 0 ((((x_t 0) + 1) + 1) + 1)) 0 (((((x_t 0) + 1) + 1) + 1) + 1)))), (t_bytes, .inl (kB, 700, .inl (upd (upd (upd (upd f_t_bytes (x_t 0).toNatClampNeg (vp_nar .byte ((p0 >>> ((24 : Int32) &&& 31)).toInt8.toInt32))) ((x_t 0) + 1).toNatClampNeg (vp_nar .byte ((p0 >>> ((16 : Int32) &&& 31)).toInt8.toInt32))) (((x_t 0) + 1) + 1).toNatClampNeg (vp_nar .byte ((p0 >>> ((8 : Int32) &&& 31)).toInt8.toInt32))) ((((x_t 0) + 1) + 1) + 1).toNatClampNeg (vp_nar .byte ((p0 >>> ((0 : Int32) &&& 31)).toInt8.toInt32)))))]) hP hD [1, 0] rfl (by decide +kernel)
  have hP9 := hPD9.1
  have hD9 := hPD9.2
  exact W.vret hx hb hr (fun t ht hW => ⟨⟨(), rfl, trivial, upd (upd (upd (upd x_t 0 ((x_t 0) + 1)) 0 (((x_t 0) + 1) + 1)) 0 ((((x_t 0) + 1) + 1) + 1)) 0 (((((x_t 0) + 1) + 1) + 1) + 1), upd (upd (upd (upd f_t_bytes (x_t 0).toNatClampNeg (vp_nar .byte ((p0 >>> ((24 : Int32) &&& 31)).toInt8.toInt32))) ((x_t 0) + 1).toNatClampNeg (vp_nar .byte ((p0 >>> ((16 : Int32) &&& 31)).toInt8.toInt32))) (((x_t 0) + 1) + 1).toNatClampNeg (vp_nar .byte ((p0 >>> ((8 : Int32) &&& 31)).toInt8.toInt32))) ((((x_t 0) + 1) + 1) + 1).toNatClampNeg (vp_nar .byte ((p0 >>> ((0 : Int32) &&& 31)).toInt8.toInt32)), (fI_u (fI_u (fI_u (fI_u hx_t (k := 0) ((iv_w b3 (by decide) (by decide)))) (k := 0) ((iv_w b4 (by decide) (by decide)))) (k := 0) ((iv_w b5 (by decide) (by decide)))) (k := 0) ((iv_w b6 (by decide) (by decide)))), (fI_u (fI_u (fI_u (fI_u hf_t_bytes (k := (x_t 0).toNatClampNeg) (nar_iv _)) (k := ((x_t 0) + 1).toNatClampNeg) (nar_iv _)) (k := (((x_t 0) + 1) + 1).toNatClampNeg) (nar_iv _)) (k := ((((x_t 0) + 1) + 1) + 1).toNatClampNeg) (nar_iv _)), (show (((((x_t 0) + 1) + 1) + 1) + 1).toInt = (x_t 0).toInt + 4 from t4_4 hfl), (show ((((x_t 0) + 1) + 1) + 1) + 1 = t4T (x_t 0) from rfl), rfl, by rw [ht]; exact hP9, hD9⟩, hS.F ht⟩) hS.2.2 dX8_append_45
def rm_s10_feed_room : Room := { frames := 2, cells := 0, slots := 0, locals := 43 }
set_option maxHeartbeats 4000000 in
set_option maxRecDepth 100000 in
theorem s10_feed_room (l : Launch) (dC : Nat → ClassId) (dI : Nat → Nat → Nat) (kB kI kJ kZ kC kS : ClassId) (sz : Nat) (op : Nat) (ot : Nat) (on : Nat) (dn : Nat) (rd : Nat) (oc : Nat) (d : Nat) (o : Nat) (si : Nat) (w : Nat) (se : Nat) (nb : Nat) (hi : Nat) (p_status : Nat) (oe : Nat) (ih : Nat) (mb : Nat) (p_imageStatus : Nat) (x_p : Nat → Int32) (t_bytes : Nat) (x_t : Nat → Int32) (f_t_bytes : Nat → Int32) (p0 : Int32) (p1 : Int32) (p2 : Int32) (p3 : Int32) (p4 : Int32) (hx_t : fI lX8 hX8 x_t) (hf_t_bytes : fI (fun _ => (-128)) (fun _ => 127) f_t_bytes) (hfl : iv 0 680 (x_t 0)) : Met l yX10_feed wsX10_feed rm_s10_feed_room (va_Pc [.ref op, .int p0, .int p1, .int p2, .int p3, .int p4] (fun U => U.heap.size = sz ∧ va_P (dC, dI) vwCl [(op, .inr (10, oX10 ot on dn rd oc d o si w se nb hi p_status oe ih mb p_imageStatus x_p)), (ot, .inr (8, oX8 t_bytes x_t)), (t_bytes, .inl (kB, 700, .inl f_t_bytes))] U.heap ∧ kE dC dI kB kI kJ kZ kC kS U ∧ va_D (fun _ => True) [(op, .inr (10, oX10 ot on dn rd oc d o si w se nb hi p_status oe ih mb p_imageStatus x_p)), (ot, .inr (8, oX8 t_bytes x_t)), (t_bytes, .inl (kB, 700, .inl f_t_bytes))])) (va_Qi (fun (r : Int32) (_ : Unit) => iv 20 700 r ∧ (r.toInt = (x_t 0).toInt + 20)) (fun _ t => ∃ (x_t' : Nat → Int32) (f_t_bytes' : Nat → Int32), fI lX8 hX8 x_t' ∧ fI (fun _ => (-128)) (fun _ => 127) f_t_bytes' ∧ ((x_t' 0).toInt = (x_t 0).toInt + 20) ∧ (f_t_bytes' = fedC f_t_bytes (x_t 0) p0 p1 p2 p3 p4) ∧ va_P (dC, dI) vwCl [(op, .inr (10, oX10 ot on dn rd oc d o si w se nb hi p_status oe ih mb p_imageStatus x_p)), (ot, .inr (8, oX8 t_bytes x_t')), (t_bytes, .inl (kB, 700, .inl f_t_bytes'))] t.heap ∧ va_D (va_A [(op, .inr (10, oX10 ot on dn rd oc d o si w se nb hi p_status oe ih mb p_imageStatus x_p)), (ot, .inr (8, oX8 t_bytes x_t)), (t_bytes, .inl (kB, 700, .inl f_t_bytes))] sz) [(op, .inr (10, oX10 ot on dn rd oc d o si w se nb hi p_status oe ih mb p_imageStatus x_p)), (ot, .inr (8, oX8 t_bytes x_t')), (t_bytes, .inl (kB, 700, .inl f_t_bytes'))]) (va_A [(op, .inr (10, oX10 ot on dn rd oc d o si w se nb hi p_status oe ih mb p_imageStatus x_p)), (ot, .inr (8, oX8 t_bytes x_t)), (t_bytes, .inl (kB, 700, .inl f_t_bytes))] sz)) 0 0 (va_A [(op, .inr (10, oX10 ot on dn rd oc d o si w se nb hi p_status oe ih mb p_imageStatus x_p)), (ot, .inr (8, oX8 t_bytes x_t)), (t_bytes, .inl (kB, 700, .inl f_t_bytes))] sz) := by
  refine Met.ofW (cc := cX10_feed) (maxL := 6) (ret := (some .int)) (by decide) rfl ?_
  intro p e s m args0 below meth c s₁ B hml hv
  obtain ⟨hargs, hsz, hP, hE, hD0⟩ := hv
  have hx := B.exec
  have hb := B.bytes
  have hr := B.returns
  have hts := atoms_spec (ws := wsX10_feed) B.pre
  have hown : s.vm.findClass RX10 = some m.cls := findClass_of_methodNamed B.named
  have hlocks := B.notSynchronized
  have hK := hE.1
  have hin10 : ∀ w ∈ wsX100, w ∈ wsX10_feed := fun _ h9 => List.mem_cons_of_mem _ (List.mem_append_left _ (List.mem_append_right _ h9))
  have hin8 : ∀ w ∈ wsX80, w ∈ wsX10_feed := fun _ h9 => List.mem_cons_of_mem _ (List.mem_append_right _ h9)
  have hw_0 := hts (.fieldLink RX10 12 "PathProber" "tape" "LPathProber$Tape;") (List.mem_of_getElem? (i := 1) rfl)
  have hw_1 := hts (.fieldLink RX10 125 "PathProber$Tape" "length" "I") (List.mem_of_getElem? (i := 2) rfl)
  subst hsz
  have hD := hD0.self (sz := s.heap.size)
  generalize hAe : va_A [(op, .inr (10, oX10 ot on dn rd oc d o si w se nb hi p_status oe ih mb p_imageStatus x_p)), (ot, .inr (8, oX8 t_bytes x_t)), (t_bytes, .inl (kB, 700, .inl f_t_bytes))] s.heap.size = A at hD ⊢
  have hA : ∀ q : Nat, s.heap.size ≤ q → A q := fun q h => by rw [← hAe]; exact Or.inr h
  have hS : va_S A s.heap s.heap [] := va_S.rf
  have hP : va_P (dC, dI) vwCl [(op, .inr (10, oX10 ot on dn rd oc d o si w se nb hi p_status oe ih mb p_imageStatus x_p)), (ot, .inr (8, oX8 t_bytes x_t)), (t_bytes, .inl (kB, 700, .inl f_t_bytes))] s.heap := hP
  have hl := lv_entry ([.ref op, .int p0, .int p1, .int p2, .int p3, .int p4]) (n := 6) (Nat.le_of_ble_eq_true rfl)
  have hla : entryFrame m args0 6 = entryFrame m ([.ref op, .int p0, .int p1, .int p2, .int p3, .int p4] : List Value).toArray 6 := by rw [hargs]
  rw [hla, lg_entry_eq]
  generalize (lg_sl ([.ref op, .int p0, .int p1, .int p2, .int p3, .int p4]) ++ List.replicate (6 - (lg_sl ([.ref op, .int p0, .int p1, .int p2, .int p3, .int p4])).length) Slot.unset).toArray = ls at hl ⊢
  have hl : lv_has ls 6 [(0, .ref op), (1, .int p0), (2, .int p1), (3, .int p2), (4, .int p3), (5, .int p4)] := hl
  refine lv_aload_n hx hb dX10_feed_0 rfl (lv_at hl 0 rfl) ?_
  refine va_get (D := (dC, dI)) (ci := 10) (v := .ref ot) (C := RX10) (T := TX10) (N := 19) hx hb hts hin10 hown hK hP 0 rfl rfl 0 (Nat.le_of_ble_eq_true rfl) hw_0 (fun _ h9 => h9) rfl dX10_feed_1 ?_
  refine lv_bipush (v := 20) hx hb dX10_feed_4 bp_20 ?_
  obtain ⟨hPc, hDc, hFc, hJn⟩ := cl_a (wc := [(ot, .inr (8, oX8 t_bytes x_t))]) (wr := [(op, .inr (10, oX10 ot on dn rd oc d o si w se nb hi p_status oe ih mb p_imageStatus x_p)), (t_bytes, .inl (kB, 700, .inl f_t_bytes))]) hP hD hS hA [1] [0, 2] rfl rfl (by decide +kernel)
  refine va_calli (va_runV (As := [.int 20]) (rest := []) ⟨hx, hb, hml, hown, hts⟩ (s8_hasRoomFor_yes l dC dI kB kI kJ kZ kC kS s.heap.size ot t_bytes x_t (hx_t) (hfl)) (cwV 1 hts gX10_feed_X8_hasRoomFor rfl rfl rfl (by decide +kernel) ⟨Nat.le_of_ble_eq_true rfl, Nat.le_of_ble_eq_true rfl⟩) ⟨fun a U g mk q => by obtain ⟨q0, q1, qP, qE, qD⟩ := q; exact ⟨q0, q1, qP, kE_call qE, qD⟩, va_recv hK hP (ci := 8) (q0 := 1) rfl rfl, fun U hU hW => ⟨rfl, by rw [hU], by rw [hU]; exact hPc, kE_warm hW hE, hDc.weaken (fun _ _ _ _ => trivial)⟩⟩ rfl rfl hl.1 rfl (lv_room (Nat.le_of_ble_eq_true rfl)) dX10_feed_6 ⟨Nat.le_of_ble_eq_true rfl, Nat.le_of_ble_eq_true rfl⟩) hS (fun q _ h => hFc q h) hFc (fun r1 u t H locs ht hvm w2 hB hz1 hk1 hS => ?_)
  obtain ⟨hP1, hD1⟩ := hB
  try dsimp only at w2
  obtain ⟨hPa, hDa⟩ := hJn (w1 := [(ot, .inr (8, oX8 t_bytes x_t))]) hk1 ht hP1 hD1
  clear hP hD hPc hDc hFc hJn hP1 hD1 hk1
  have hP : va_P (dC, dI) vwCl [(op, .inr (10, oX10 ot on dn rd oc d o si w se nb hi p_status oe ih mb p_imageStatus x_p)), (t_bytes, .inl (kB, 700, .inl f_t_bytes)), (ot, .inr (8, oX8 t_bytes x_t))] H := hPa
  have hD : va_D A [(op, .inr (10, oX10 ot on dn rd oc d o si w se nb hi p_status oe ih mb p_imageStatus x_p)), (t_bytes, .inl (kB, 700, .inl f_t_bytes)), (ot, .inr (8, oX8 t_bytes x_t))] := hDa
  clear hPa hDa
  refine W.widen (k := 0) (n := 0) (Nat.le_of_ble_eq_true rfl) (Nat.le_of_ble_eq_true rfl) ?_
  obtain rfl : r1 = 1 := iv_one w2 (by decide)
  refine lv_if_ne (tgt := 14) hx hb dX10_feed_9 rfl (fun _ => ?_) (fun c9 => absurd c9 (by decide))
  refine lv_aload_n hx hb dX10_feed_14 rfl (lv_at hl 0 rfl) ?_
  refine va_get (D := (dC, dI)) (ci := 10) (v := .ref ot) (C := RX10) (T := TX10) (N := 19) hx hb hts hin10 hown hK hP 0 rfl rfl 0 (Nat.le_of_ble_eq_true rfl) hw_0 (fun _ h9 => h9) rfl dX10_feed_15 ?_
  refine lv_iload_n hx hb dX10_feed_18 rfl (lv_at hl 1 rfl) ?_
  obtain ⟨hPc, hDc, hFc, hJn⟩ := cl_a (wc := [(ot, .inr (8, oX8 t_bytes x_t)), (t_bytes, .inl (kB, 700, .inl f_t_bytes))]) (wr := [(op, .inr (10, oX10 ot on dn rd oc d o si w se nb hi p_status oe ih mb p_imageStatus x_p))]) hP hD hS hA [2, 1] [0] rfl rfl (by decide +kernel)
  refine va_callv (va_runV (As := [.int p0]) (rest := []) ⟨hx, hb, hml, hown, hts⟩ (s8_append_x l dC dI kB kI kJ kZ kC kS H.size ot t_bytes x_t f_t_bytes p0 (hx_t) (hf_t_bytes) ((iv_w hfl (by decide) (by decide)))) (cwV 1 hts gX10_feed_X8_append rfl rfl rfl (by decide +kernel) ⟨Nat.le_of_ble_eq_true rfl, Nat.le_of_ble_eq_true rfl⟩) ⟨fun a U g mk q => by obtain ⟨q0, q1, qP, qE, qD⟩ := q; exact ⟨q0, q1, qP, kE_call qE, qD⟩, va_recv hK hP (ci := 8) (q0 := 2) rfl rfl, fun U hU hW => ⟨rfl, by rw [hU], by rw [hU]; exact hPc, kE_warm hW hE, hDc.weaken (fun _ _ _ _ => trivial)⟩⟩ rfl rfl hl.1 rfl (lv_room (Nat.le_of_ble_eq_true rfl)) dX10_feed_19 ⟨Nat.le_of_ble_eq_true rfl, Nat.le_of_ble_eq_true rfl⟩) hS (fun q _ h => hFc q h) hFc (fun u t H locs ht hvm w4 hB hz1 hk1 hS => ?_)
  obtain ⟨y5, f6, hq7, hq8, hq9, hq10, hq11, hP1, hD1⟩ := hB
  try dsimp only at w4
  obtain ⟨hPa, hDa⟩ := hJn (w1 := [(ot, .inr (8, oX8 t_bytes y5)), (t_bytes, .inl (kB, 700, .inl f6))]) hk1 ht hP1 hD1
  clear hP hD hPc hDc hFc hJn hP1 hD1 hk1
  have hP : va_P (dC, dI) vwCl [(op, .inr (10, oX10 ot on dn rd oc d o si w se nb hi p_status oe ih mb p_imageStatus x_p)), (ot, .inr (8, oX8 t_bytes y5)), (t_bytes, .inl (kB, 700, .inl f6))] H := hPa
  have hD : va_D A [(op, .inr (10, oX10 ot on dn rd oc d o si w se nb hi p_status oe ih mb p_imageStatus x_p)), (ot, .inr (8, oX8 t_bytes y5)), (t_bytes, .inl (kB, 700, .inl f6))] := hDa
  clear hPa hDa
  refine W.widen (k := 0) (n := 0) (Nat.le_of_ble_eq_true rfl) (Nat.le_of_ble_eq_true rfl) ?_
  have b12 : iv 4 684 (y5 0) := iv_eqc hq9 hfl (by decide) (by decide)
  refine lv_aload_n hx hb dX10_feed_22 rfl (lv_at hl 0 rfl) ?_
  refine va_get (D := (dC, dI)) (ci := 10) (v := .ref ot) (C := RX10) (T := TX10) (N := 19) hx hb hts hin10 hown hK hP 0 rfl rfl 0 (Nat.le_of_ble_eq_true rfl) hw_0 (fun _ h9 => h9) rfl dX10_feed_23 ?_
  refine lv_iload_n hx hb dX10_feed_26 rfl (lv_at hl 2 rfl) ?_
  obtain ⟨hPc, hDc, hFc, hJn⟩ := cl_a (wc := [(ot, .inr (8, oX8 t_bytes y5)), (t_bytes, .inl (kB, 700, .inl f6))]) (wr := [(op, .inr (10, oX10 ot on dn rd oc d o si w se nb hi p_status oe ih mb p_imageStatus x_p))]) hP hD hS hA [1, 2] [0] rfl rfl (by decide +kernel)
  refine va_callv (va_runV (As := [.int p1]) (rest := []) ⟨hx, hb, hml, hown, hts⟩ (s8_append_x l dC dI kB kI kJ kZ kC kS H.size ot t_bytes y5 f6 p1 (hq7) (hq8) ((iv_w b12 (by decide) (by decide)))) (cwV 1 hts gX10_feed_X8_append rfl rfl rfl (by decide +kernel) ⟨Nat.le_of_ble_eq_true rfl, Nat.le_of_ble_eq_true rfl⟩) ⟨fun a U g mk q => by obtain ⟨q0, q1, qP, qE, qD⟩ := q; exact ⟨q0, q1, qP, kE_call qE, qD⟩, va_recv hK hP (ci := 8) (q0 := 1) rfl rfl, fun U hU hW => ⟨rfl, by rw [hU], by rw [hU]; exact hPc, kE_warm hW hE, hDc.weaken (fun _ _ _ _ => trivial)⟩⟩ rfl rfl hl.1 rfl (lv_room (Nat.le_of_ble_eq_true rfl)) dX10_feed_27 ⟨Nat.le_of_ble_eq_true rfl, Nat.le_of_ble_eq_true rfl⟩) hS (fun q _ h => hFc q h) hFc (fun u t H locs ht hvm w14 hB hz1 hk1 hS => ?_)
  obtain ⟨y15, f16, hq17, hq18, hq19, hq20, hq21, hP1, hD1⟩ := hB
  try dsimp only at w14
  obtain ⟨hPa, hDa⟩ := hJn (w1 := [(ot, .inr (8, oX8 t_bytes y15)), (t_bytes, .inl (kB, 700, .inl f16))]) hk1 ht hP1 hD1
  clear hP hD hPc hDc hFc hJn hP1 hD1 hk1
  have hP : va_P (dC, dI) vwCl [(op, .inr (10, oX10 ot on dn rd oc d o si w se nb hi p_status oe ih mb p_imageStatus x_p)), (ot, .inr (8, oX8 t_bytes y15)), (t_bytes, .inl (kB, 700, .inl f16))] H := hPa
  have hD : va_D A [(op, .inr (10, oX10 ot on dn rd oc d o si w se nb hi p_status oe ih mb p_imageStatus x_p)), (ot, .inr (8, oX8 t_bytes y15)), (t_bytes, .inl (kB, 700, .inl f16))] := hDa
  clear hPa hDa
  refine W.widen (k := 0) (n := 0) (Nat.le_of_ble_eq_true rfl) (Nat.le_of_ble_eq_true rfl) ?_
  have b22 : iv 8 688 (y15 0) := iv_eqc hq19 b12 (by decide) (by decide)
  refine lv_aload_n hx hb dX10_feed_30 rfl (lv_at hl 0 rfl) ?_
  refine va_get (D := (dC, dI)) (ci := 10) (v := .ref ot) (C := RX10) (T := TX10) (N := 19) hx hb hts hin10 hown hK hP 0 rfl rfl 0 (Nat.le_of_ble_eq_true rfl) hw_0 (fun _ h9 => h9) rfl dX10_feed_31 ?_
  refine lv_iload_n hx hb dX10_feed_34 rfl (lv_at hl 3 rfl) ?_
  obtain ⟨hPc, hDc, hFc, hJn⟩ := cl_a (wc := [(ot, .inr (8, oX8 t_bytes y15)), (t_bytes, .inl (kB, 700, .inl f16))]) (wr := [(op, .inr (10, oX10 ot on dn rd oc d o si w se nb hi p_status oe ih mb p_imageStatus x_p))]) hP hD hS hA [1, 2] [0] rfl rfl (by decide +kernel)
  refine va_callv (va_runV (As := [.int p2]) (rest := []) ⟨hx, hb, hml, hown, hts⟩ (s8_append_x l dC dI kB kI kJ kZ kC kS H.size ot t_bytes y15 f16 p2 (hq17) (hq18) ((iv_w b22 (by decide) (by decide)))) (cwV 1 hts gX10_feed_X8_append rfl rfl rfl (by decide +kernel) ⟨Nat.le_of_ble_eq_true rfl, Nat.le_of_ble_eq_true rfl⟩) ⟨fun a U g mk q => by obtain ⟨q0, q1, qP, qE, qD⟩ := q; exact ⟨q0, q1, qP, kE_call qE, qD⟩, va_recv hK hP (ci := 8) (q0 := 1) rfl rfl, fun U hU hW => ⟨rfl, by rw [hU], by rw [hU]; exact hPc, kE_warm hW hE, hDc.weaken (fun _ _ _ _ => trivial)⟩⟩ rfl rfl hl.1 rfl (lv_room (Nat.le_of_ble_eq_true rfl)) dX10_feed_35 ⟨Nat.le_of_ble_eq_true rfl, Nat.le_of_ble_eq_true rfl⟩) hS (fun q _ h => hFc q h) hFc (fun u t H locs ht hvm w24 hB hz1 hk1 hS => ?_)
  obtain ⟨y25, f26, hq27, hq28, hq29, hq30, hq31, hP1, hD1⟩ := hB
  try dsimp only at w24
  obtain ⟨hPa, hDa⟩ := hJn (w1 := [(ot, .inr (8, oX8 t_bytes y25)), (t_bytes, .inl (kB, 700, .inl f26))]) hk1 ht hP1 hD1
  clear hP hD hPc hDc hFc hJn hP1 hD1 hk1
  have hP : va_P (dC, dI) vwCl [(op, .inr (10, oX10 ot on dn rd oc d o si w se nb hi p_status oe ih mb p_imageStatus x_p)), (ot, .inr (8, oX8 t_bytes y25)), (t_bytes, .inl (kB, 700, .inl f26))] H := hPa
  have hD : va_D A [(op, .inr (10, oX10 ot on dn rd oc d o si w se nb hi p_status oe ih mb p_imageStatus x_p)), (ot, .inr (8, oX8 t_bytes y25)), (t_bytes, .inl (kB, 700, .inl f26))] := hDa
  clear hPa hDa
  refine W.widen (k := 0) (n := 0) (Nat.le_of_ble_eq_true rfl) (Nat.le_of_ble_eq_true rfl) ?_
  have b32 : iv 12 692 (y25 0) := iv_eqc hq29 b22 (by decide) (by decide)
  refine lv_aload_n hx hb dX10_feed_38 rfl (lv_at hl 0 rfl) ?_
  refine va_get (D := (dC, dI)) (ci := 10) (v := .ref ot) (C := RX10) (T := TX10) (N := 19) hx hb hts hin10 hown hK hP 0 rfl rfl 0 (Nat.le_of_ble_eq_true rfl) hw_0 (fun _ h9 => h9) rfl dX10_feed_39 ?_
  refine lv_iload hx hb dX10_feed_42 (lv_at hl 4 rfl) ?_
  obtain ⟨hPc, hDc, hFc, hJn⟩ := cl_a (wc := [(ot, .inr (8, oX8 t_bytes y25)), (t_bytes, .inl (kB, 700, .inl f26))]) (wr := [(op, .inr (10, oX10 ot on dn rd oc d o si w se nb hi p_status oe ih mb p_imageStatus x_p))]) hP hD hS hA [1, 2] [0] rfl rfl (by decide +kernel)
  refine va_callv (va_runV (As := [.int p3]) (rest := []) ⟨hx, hb, hml, hown, hts⟩ (s8_append_x l dC dI kB kI kJ kZ kC kS H.size ot t_bytes y25 f26 p3 (hq27) (hq28) ((iv_w b32 (by decide) (by decide)))) (cwV 1 hts gX10_feed_X8_append rfl rfl rfl (by decide +kernel) ⟨Nat.le_of_ble_eq_true rfl, Nat.le_of_ble_eq_true rfl⟩) ⟨fun a U g mk q => by obtain ⟨q0, q1, qP, qE, qD⟩ := q; exact ⟨q0, q1, qP, kE_call qE, qD⟩, va_recv hK hP (ci := 8) (q0 := 1) rfl rfl, fun U hU hW => ⟨rfl, by rw [hU], by rw [hU]; exact hPc, kE_warm hW hE, hDc.weaken (fun _ _ _ _ => trivial)⟩⟩ rfl rfl hl.1 rfl (lv_room (Nat.le_of_ble_eq_true rfl)) dX10_feed_44 ⟨Nat.le_of_ble_eq_true rfl, Nat.le_of_ble_eq_true rfl⟩) hS (fun q _ h => hFc q h) hFc (fun u t H locs ht hvm w34 hB hz1 hk1 hS => ?_)
  obtain ⟨y35, f36, hq37, hq38, hq39, hq40, hq41, hP1, hD1⟩ := hB
  try dsimp only at w34
  obtain ⟨hPa, hDa⟩ := hJn (w1 := [(ot, .inr (8, oX8 t_bytes y35)), (t_bytes, .inl (kB, 700, .inl f36))]) hk1 ht hP1 hD1
  clear hP hD hPc hDc hFc hJn hP1 hD1 hk1
  have hP : va_P (dC, dI) vwCl [(op, .inr (10, oX10 ot on dn rd oc d o si w se nb hi p_status oe ih mb p_imageStatus x_p)), (ot, .inr (8, oX8 t_bytes y35)), (t_bytes, .inl (kB, 700, .inl f36))] H := hPa
  have hD : va_D A [(op, .inr (10, oX10 ot on dn rd oc d o si w se nb hi p_status oe ih mb p_imageStatus x_p)), (ot, .inr (8, oX8 t_bytes y35)), (t_bytes, .inl (kB, 700, .inl f36))] := hDa
  clear hPa hDa
  refine W.widen (k := 0) (n := 0) (Nat.le_of_ble_eq_true rfl) (Nat.le_of_ble_eq_true rfl) ?_
  have b42 : iv 16 696 (y35 0) := iv_eqc hq39 b32 (by decide) (by decide)
  refine lv_aload_n hx hb dX10_feed_47 rfl (lv_at hl 0 rfl) ?_
  refine va_get (D := (dC, dI)) (ci := 10) (v := .ref ot) (C := RX10) (T := TX10) (N := 19) hx hb hts hin10 hown hK hP 0 rfl rfl 0 (Nat.le_of_ble_eq_true rfl) hw_0 (fun _ h9 => h9) rfl dX10_feed_48 ?_
  refine lv_iload hx hb dX10_feed_51 (lv_at hl 5 rfl) ?_
  obtain ⟨hPc, hDc, hFc, hJn⟩ := cl_a (wc := [(ot, .inr (8, oX8 t_bytes y35)), (t_bytes, .inl (kB, 700, .inl f36))]) (wr := [(op, .inr (10, oX10 ot on dn rd oc d o si w se nb hi p_status oe ih mb p_imageStatus x_p))]) hP hD hS hA [1, 2] [0] rfl rfl (by decide +kernel)
  refine va_callv (va_runV (As := [.int p4]) (rest := []) ⟨hx, hb, hml, hown, hts⟩ (s8_append_x l dC dI kB kI kJ kZ kC kS H.size ot t_bytes y35 f36 p4 (hq37) (hq38) ((iv_w b42 (by decide) (by decide)))) (cwV 1 hts gX10_feed_X8_append rfl rfl rfl (by decide +kernel) ⟨Nat.le_of_ble_eq_true rfl, Nat.le_of_ble_eq_true rfl⟩) ⟨fun a U g mk q => by obtain ⟨q0, q1, qP, qE, qD⟩ := q; exact ⟨q0, q1, qP, kE_call qE, qD⟩, va_recv hK hP (ci := 8) (q0 := 1) rfl rfl, fun U hU hW => ⟨rfl, by rw [hU], by rw [hU]; exact hPc, kE_warm hW hE, hDc.weaken (fun _ _ _ _ => trivial)⟩⟩ rfl rfl hl.1 rfl (lv_room (Nat.le_of_ble_eq_true rfl)) dX10_feed_53 ⟨Nat.le_of_ble_eq_true rfl, Nat.le_of_ble_eq_true rfl⟩) hS (fun q _ h => hFc q h) hFc (fun u t H locs ht hvm w44 hB hz1 hk1 hS => ?_)
  obtain ⟨y45, f46, hq47, hq48, hq49, hq50, hq51, hP1, hD1⟩ := hB
  try dsimp only at w44
  obtain ⟨hPa, hDa⟩ := hJn (w1 := [(ot, .inr (8, oX8 t_bytes y45)), (t_bytes, .inl (kB, 700, .inl f46))]) hk1 ht hP1 hD1
  clear hP hD hPc hDc hFc hJn hP1 hD1 hk1
  have hP : va_P (dC, dI) vwCl [(op, .inr (10, oX10 ot on dn rd oc d o si w se nb hi p_status oe ih mb p_imageStatus x_p)), (ot, .inr (8, oX8 t_bytes y45)), (t_bytes, .inl (kB, 700, .inl f46))] H := hPa
  have hD : va_D A [(op, .inr (10, oX10 ot on dn rd oc d o si w se nb hi p_status oe ih mb p_imageStatus x_p)), (ot, .inr (8, oX8 t_bytes y45)), (t_bytes, .inl (kB, 700, .inl f46))] := hDa
  clear hPa hDa
  refine W.widen (k := 0) (n := 0) (Nat.le_of_ble_eq_true rfl) (Nat.le_of_ble_eq_true rfl) ?_
  have b52 : iv 20 700 (y45 0) := iv_eqc hq49 b42 (by decide) (by decide)
  refine lv_aload_n hx hb dX10_feed_56 rfl (lv_at hl 0 rfl) ?_
  refine va_get (D := (dC, dI)) (ci := 10) (v := .ref ot) (C := RX10) (T := TX10) (N := 19) hx hb hts hin10 hown hK hP 0 rfl rfl 0 (Nat.le_of_ble_eq_true rfl) hw_0 (fun _ h9 => h9) rfl dX10_feed_57 ?_
  refine va_get (D := (dC, dI)) (ci := 8) (v := .int (y45 0)) (C := RX8) (T := TX8) (N := 2) hx hb hts hin8 hown hK hP 1 rfl rfl 1 (Nat.le_of_ble_eq_true rfl) hw_1 (fun _ h9 => h9) rfl dX10_feed_60 ?_
  have hP9 := hP
  have hD9 := hD
  exact W.iret (v := y45 0) hx hb hr (fun t ht hW => ⟨⟨y45 0, (), rfl, ⟨b52, by omega⟩, y45, f46, hq47, hq48, (show (y45 0).toInt = (x_t 0).toInt + 20 from by omega), (show f46 = fedC f_t_bytes (x_t 0) p0 p1 p2 p3 p4 from by rw [hq51, hq41, hq31, hq21, hq11, hq40, hq30, hq20, hq10]; rfl), by rw [ht]; exact hP9, hD9⟩, hS.F ht⟩) hS.2.2 dX10_feed_63
def rm_s10_feed_full : Room := { frames := 1, cells := 0, slots := 0, locals := 21 }
set_option maxHeartbeats 4000000 in
set_option maxRecDepth 100000 in
theorem s10_feed_full (l : Launch) (dC : Nat → ClassId) (dI : Nat → Nat → Nat) (kB kI kJ kZ kC kS : ClassId) (sz : Nat) (op : Nat) (ot : Nat) (on : Nat) (dn : Nat) (rd : Nat) (oc : Nat) (d : Nat) (o : Nat) (si : Nat) (w : Nat) (se : Nat) (nb : Nat) (hi : Nat) (p_status : Nat) (oe : Nat) (ih : Nat) (mb : Nat) (p_imageStatus : Nat) (x_p : Nat → Int32) (t_bytes : Nat) (x_t : Nat → Int32) (p0 : Int32) (p1 : Int32) (p2 : Int32) (p3 : Int32) (p4 : Int32) (hx_t : fI lX8 hX8 x_t) (hfl : iv 681 700 (x_t 0)) : Met l yX10_feed wsX10_feed rm_s10_feed_full (va_Pc [.ref op, .int p0, .int p1, .int p2, .int p3, .int p4] (fun U => U.heap.size = sz ∧ va_P (dC, dI) vwCl [(op, .inr (10, oX10 ot on dn rd oc d o si w se nb hi p_status oe ih mb p_imageStatus x_p)), (ot, .inr (8, oX8 t_bytes x_t))] U.heap ∧ kE dC dI kB kI kJ kZ kC kS U ∧ va_D (fun _ => True) [(op, .inr (10, oX10 ot on dn rd oc d o si w se nb hi p_status oe ih mb p_imageStatus x_p)), (ot, .inr (8, oX8 t_bytes x_t))])) (va_Qi (fun (r : Int32) (_ : Unit) => iv (-1) (-1) r) (fun _ t => va_P (dC, dI) vwCl [(op, .inr (10, oX10 ot on dn rd oc d o si w se nb hi p_status oe ih mb p_imageStatus x_p)), (ot, .inr (8, oX8 t_bytes x_t))] t.heap ∧ va_D (va_A [(op, .inr (10, oX10 ot on dn rd oc d o si w se nb hi p_status oe ih mb p_imageStatus x_p)), (ot, .inr (8, oX8 t_bytes x_t))] sz) [(op, .inr (10, oX10 ot on dn rd oc d o si w se nb hi p_status oe ih mb p_imageStatus x_p)), (ot, .inr (8, oX8 t_bytes x_t))]) (va_A [(op, .inr (10, oX10 ot on dn rd oc d o si w se nb hi p_status oe ih mb p_imageStatus x_p)), (ot, .inr (8, oX8 t_bytes x_t))] sz)) 0 0 (va_A [(op, .inr (10, oX10 ot on dn rd oc d o si w se nb hi p_status oe ih mb p_imageStatus x_p)), (ot, .inr (8, oX8 t_bytes x_t))] sz) := by
  refine Met.ofW (cc := cX10_feed) (maxL := 6) (ret := (some .int)) (by decide) rfl ?_
  intro p e s m args0 below meth c s₁ B hml hv
  obtain ⟨hargs, hsz, hP, hE, hD0⟩ := hv
  have hx := B.exec
  have hb := B.bytes
  have hr := B.returns
  have hts := atoms_spec (ws := wsX10_feed) B.pre
  have hown : s.vm.findClass RX10 = some m.cls := findClass_of_methodNamed B.named
  have hlocks := B.notSynchronized
  have hK := hE.1
  have hin10 : ∀ w ∈ wsX100, w ∈ wsX10_feed := fun _ h9 => List.mem_cons_of_mem _ (List.mem_append_left _ (List.mem_append_right _ h9))
  have hin8 : ∀ w ∈ wsX80, w ∈ wsX10_feed := fun _ h9 => List.mem_cons_of_mem _ (List.mem_append_right _ h9)
  have hw_0 := hts (.fieldLink RX10 12 "PathProber" "tape" "LPathProber$Tape;") (List.mem_of_getElem? (i := 1) rfl)
  subst hsz
  have hD := hD0.self (sz := s.heap.size)
  generalize hAe : va_A [(op, .inr (10, oX10 ot on dn rd oc d o si w se nb hi p_status oe ih mb p_imageStatus x_p)), (ot, .inr (8, oX8 t_bytes x_t))] s.heap.size = A at hD ⊢
  have hA : ∀ q : Nat, s.heap.size ≤ q → A q := fun q h => by rw [← hAe]; exact Or.inr h
  have hS : va_S A s.heap s.heap [] := va_S.rf
  have hP : va_P (dC, dI) vwCl [(op, .inr (10, oX10 ot on dn rd oc d o si w se nb hi p_status oe ih mb p_imageStatus x_p)), (ot, .inr (8, oX8 t_bytes x_t))] s.heap := hP
  have hl := lv_entry ([.ref op, .int p0, .int p1, .int p2, .int p3, .int p4]) (n := 6) (Nat.le_of_ble_eq_true rfl)
  have hla : entryFrame m args0 6 = entryFrame m ([.ref op, .int p0, .int p1, .int p2, .int p3, .int p4] : List Value).toArray 6 := by rw [hargs]
  rw [hla, lg_entry_eq]
  generalize (lg_sl ([.ref op, .int p0, .int p1, .int p2, .int p3, .int p4]) ++ List.replicate (6 - (lg_sl ([.ref op, .int p0, .int p1, .int p2, .int p3, .int p4])).length) Slot.unset).toArray = ls at hl ⊢
  have hl : lv_has ls 6 [(0, .ref op), (1, .int p0), (2, .int p1), (3, .int p2), (4, .int p3), (5, .int p4)] := hl
  refine lv_aload_n hx hb dX10_feed_0 rfl (lv_at hl 0 rfl) ?_
  refine va_get (D := (dC, dI)) (ci := 10) (v := .ref ot) (C := RX10) (T := TX10) (N := 19) hx hb hts hin10 hown hK hP 0 rfl rfl 0 (Nat.le_of_ble_eq_true rfl) hw_0 (fun _ h9 => h9) rfl dX10_feed_1 ?_
  refine lv_bipush (v := 20) hx hb dX10_feed_4 bp_20 ?_
  obtain ⟨hPc, hDc, hFc, hJn⟩ := cl_a (wc := [(ot, .inr (8, oX8 t_bytes x_t))]) (wr := [(op, .inr (10, oX10 ot on dn rd oc d o si w se nb hi p_status oe ih mb p_imageStatus x_p))]) hP hD hS hA [1] [0] rfl rfl (by decide +kernel)
  refine va_calli (va_runV (As := [.int 20]) (rest := []) ⟨hx, hb, hml, hown, hts⟩ (s8_hasRoomFor_no l dC dI kB kI kJ kZ kC kS s.heap.size ot t_bytes x_t (hx_t) (hfl)) (cwV 1 hts gX10_feed_X8_hasRoomFor rfl rfl rfl (by decide +kernel) ⟨Nat.le_of_ble_eq_true rfl, Nat.le_of_ble_eq_true rfl⟩) ⟨fun a U g mk q => by obtain ⟨q0, q1, qP, qE, qD⟩ := q; exact ⟨q0, q1, qP, kE_call qE, qD⟩, va_recv hK hP (ci := 8) (q0 := 1) rfl rfl, fun U hU hW => ⟨rfl, by rw [hU], by rw [hU]; exact hPc, kE_warm hW hE, hDc.weaken (fun _ _ _ _ => trivial)⟩⟩ rfl rfl hl.1 rfl (lv_room (Nat.le_of_ble_eq_true rfl)) dX10_feed_6 ⟨Nat.le_of_ble_eq_true rfl, Nat.le_of_ble_eq_true rfl⟩) hS (fun q _ h => hFc q h) hFc (fun r1 u t H locs ht hvm w2 hB hz1 hk1 hS => ?_)
  obtain ⟨hP1, hD1⟩ := hB
  try dsimp only at w2
  obtain ⟨hPa, hDa⟩ := hJn (w1 := [(ot, .inr (8, oX8 t_bytes x_t))]) hk1 ht hP1 hD1
  clear hP hD hPc hDc hFc hJn hP1 hD1 hk1
  have hP : va_P (dC, dI) vwCl [(op, .inr (10, oX10 ot on dn rd oc d o si w se nb hi p_status oe ih mb p_imageStatus x_p)), (ot, .inr (8, oX8 t_bytes x_t))] H := hPa
  have hD : va_D A [(op, .inr (10, oX10 ot on dn rd oc d o si w se nb hi p_status oe ih mb p_imageStatus x_p)), (ot, .inr (8, oX8 t_bytes x_t))] := hDa
  clear hPa hDa
  refine W.widen (k := 0) (n := 0) (Nat.le_of_ble_eq_true rfl) (Nat.le_of_ble_eq_true rfl) ?_
  obtain rfl : r1 = 0 := iv_one w2 (by decide)
  refine lv_if_ne (tgt := 14) hx hb dX10_feed_9 rfl (fun c9 => absurd (by decide) c9) (fun _ => ?_)
  refine lv_iconst (v := (-1)) hx hb dX10_feed_12 ic_m1 ?_
  have hP9 := hP
  have hD9 := hD
  exact W.iret (v := (-1)) hx hb hr (fun t ht hW => ⟨⟨(-1), (), rfl, ivk_m1, by rw [ht]; exact hP9, hD9⟩, hS.F ht⟩) hS.2.2 dX10_feed_13
