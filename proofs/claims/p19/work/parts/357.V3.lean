def rm_s10_feed_room : Room := { frames := 2, cells := 0, slots := 0, locals := 43 }
set_option maxHeartbeats 4000000 in
set_option maxRecDepth 100000 in
theorem s10_feed_room (l : Launch) (dC : Nat → ClassId) (dI : Nat → Nat → Nat) (kB kI kJ kZ kC kS : ClassId) (sz : Nat) (op : Nat) (ot : Nat) (on : Nat) (dn : Nat) (rd : Nat) (oc : Nat) (d : Nat) (o : Nat) (si : Nat) (w : Nat) (se : Nat) (nb : Nat) (hi : Nat) (p_status : Nat) (oe : Nat) (ih : Nat) (mb : Nat) (p_imageStatus : Nat) (x_p : Nat → Int32) (t_bytes : Nat) (x_t : Nat → Int32) (f_t_bytes : Nat → Int32) (p0 : Int32) (p1 : Int32) (p2 : Int32) (p3 : Int32) (p4 : Int32) (hx_t : fI lX8 hX8 x_t) (hf_t_bytes : fI (fun _ => (-128)) (fun _ => 127) f_t_bytes) (hfl : iv 0 680 (x_t 0)) : Met l yX10_feed wsX10_feed rm_s10_feed_room (va_Pc [.ref op, .int p0, .int p1, .int p2, .int p3, .int p4] (fun U => U.heap.size = sz ∧ va_P (dC, dI) vwCl [(op, .inr (10, oX10 ot on dn rd oc d o si w se nb hi p_status oe ih mb p_imageStatus x_p)), (ot, .inr (8, oX8 t_bytes x_t)), (t_bytes, .inl (kB, 700, .inl f_t_bytes))] U.heap ∧ kE dC dI kB kI kJ kZ kC kS U ∧ va_D (fun _ => True) [(op, .inr (10, oX10 ot on dn rd oc d o si w se nb hi p_status oe ih mb p_imageStatus x_p)), (ot, .inr (8, oX8 t_bytes x_t)), (t_bytes, .inl (kB, 700, .inl f_t_bytes))])) (va_Qi (fun (r : Int32) (_ : Unit) => iv 20 700 r ∧ (r.toInt = (x_t 0).toInt + 20)) (fun _ t => ∃ (x_t' : Nat → Int32) (f_t_bytes' : Nat → Int32), fI lX8 hX8 x_t' ∧ fI (fun _ => (-128)) (fun _ => 127) f_t_bytes' ∧ ((x_t' 0).toInt = (x_t 0).toInt + 20) ∧ (f_t_bytes' = fedC f_t_bytes (x_t 0) p0 p1 p2 p3 p4) ∧ va_P (dC, dI) vwCl [(op, .inr (10, oX10 ot on dn rd oc d o si w se nb hi p_status oe ih mb p_imageStatus x_p)), (ot, .inr (8, oX8 t_bytes x_t')), (t_bytes, .inl (kB, 700, .inl f_t_bytes'))] t.heap ∧ va_D (va_A [(op, .inr (10, oX10 ot on dn rd oc d o si w se nb hi p_status oe ih mb p_imageStatus x_p)), (ot, .inr (8, oX8 t_bytes x_t)), (t_bytes, .inl (kB, 700, .inl f_t_bytes))] sz) [(op, .inr (10, oX10 ot on dn rd oc d o si w se nb hi p_status oe ih mb p_imageStatus x_p)), (ot, .inr (8, oX8 t_bytes x_t')), (t_bytes, .inl (kB, 700, .inl f_t_bytes'))]) (va_A [(op, .inr (10, oX10 ot on dn rd oc d o si w se nb hi p_status oe ih mb p_imageStatus x_p)), (ot, .inr (8, oX8 t_bytes x_t)), (t_bytes, .inl (kB, 700, .inl f_t_bytes))] sz)) 0 0 (va_A [(op, .inr (10, oX10 ot on dn rd oc d o si w se nb hi p_status oe ih mb p_imageStatus x_p)), (ot, .inr (8, oX8 t_bytes x_t)), (t_bytes, .inl (kB, 700, .inl f_t_bytes))] sz) := by
  refine Met.ofW (cc := cX10_feed) (maxL := 6) (ret := (some .int)) (by decide) rfl ?_
  intro p e s m args0 below meth c s₁ B hml hv
  obtain ⟨hargs, hsz, hP, hE, hD0⟩ := hv
  have hx := B.exec
  have hb := B.bytes
  have hr := B.returns
  have hts := atoms_spec (ws := wsX10_feed) B.pre
  have hown : s.vm.findClass RX10 = some m.cls := findClass_of_methodNamed B.named
  have hlocks := B.notSynchronized
  have hK := hE.1
  have hin10 : ∀ w ∈ wsX100, w ∈ wsX10_feed := fun _ h9 => List.mem_cons_of_mem _ (List.mem_append_left _ (List.mem_append_right _ h9))
  have hin8 : ∀ w ∈ wsX80, w ∈ wsX10_feed := fun _ h9 => List.mem_cons_of_mem _ (List.mem_append_right _ h9)
  have hw_0 := hts (.fieldLink RX10 12 "PathProber" "tape" "LPathProber$Tape;") (List.mem_of_getElem? (i := 1) rfl)
  have hw_1 := hts (.fieldLink RX10 125 "PathProber$Tape" "length" "I") (List.mem_of_getElem? (i := 2) rfl)
  subst hsz
  have hD := hD0.self (sz := s.heap.size)
  generalize hAe : va_A [(op, .inr (10, oX10 ot on dn rd oc d o si w se nb hi p_status oe ih mb p_imageStatus x_p)), (ot, .inr (8, oX8 t_bytes x_t)), (t_bytes, .inl (kB, 700, .inl f_t_bytes))] s.heap.size = A at hD ⊢
  have hA : ∀ q : Nat, s.heap.size ≤ q → A q := fun q h => by rw [← hAe]; exact Or.inr h
  have hS : va_S A s.heap s.heap [] := va_S.rf
  have hP : va_P (dC, dI) vwCl [(op, .inr (10, oX10 ot on dn rd oc d o si w se nb hi p_status oe ih mb p_imageStatus x_p)), (ot, .inr (8, oX8 t_bytes x_t)), (t_bytes, .inl (kB, 700, .inl f_t_bytes))] s.heap := hP
  have hl := lv_entry ([.ref op, .int p0, .int p1, .int p2, .int p3, .int p4]) (n := 6) (Nat.le_of_ble_eq_true rfl)
  have hla : entryFrame m args0 6 = entryFrame m ([.ref op, .int p0, .int p1, .int p2, .int p3, .int p4] : List Value).toArray 6 := by rw [hargs]
  rw [hla, lg_entry_eq]
  generalize (lg_sl ([.ref op, .int p0, .int p1, .int p2, .int p3, .int p4]) ++ List.replicate (6 - (lg_sl ([.ref op, .int p0, .int p1, .int p2, .int p3, .int p4])).length) Slot.unset).toArray = ls at hl ⊢
  have hl : lv_has ls 6 [(0, .ref op), (1, .int p0), (2, .int p1), (3, .int p2), (4, .int p3), (5, .int p4)] := hl
  refine lv_aload_n hx hb dX10_feed_0 rfl (lv_at hl 0 rfl) ?_
  refine va_get (D := (dC, dI)) (ci := 10) (v := .ref ot) (C := RX10) (T := TX10) (N := 19) hx hb hts hin10 hown hK hP 0 rfl rfl 0 (Nat.le_of_ble_eq_true rfl) hw_0 (fun _ h9 => h9) rfl dX10_feed_1 ?_
  refine lv_bipush (v := 20) hx hb dX10_feed_4 bp_20 ?_
  obtain ⟨hPc, hDc, hFc, hJn⟩ := cl_a (wc := [(ot, .inr (8, oX8 t_bytes x_t))]) (wr := [(op, .inr (10, oX10 ot on dn rd oc d o si w se nb hi p_status oe ih mb p_imageStatus x_p)), (t_bytes, .inl (kB, 700, .inl f_t_bytes))]) hP hD hS hA [1] [0, 2] rfl rfl (by decide +kernel)
  refine va_calli (va_runV (As := [.int 20]) (rest := []) ⟨hx, hb, hml, hown, hts⟩ (s8_hasRoomFor_yes l dC dI kB kI kJ kZ kC kS s.heap.size ot t_bytes x_t (hx_t) (hfl)) (cwV 1 hts gX10_feed_X8_hasRoomFor rfl rfl rfl (by decide +kernel) ⟨Nat.le_of_ble_eq_true rfl, Nat.le_of_ble_eq_true rfl⟩) ⟨fun a U g mk q => by obtain ⟨q0, q1, qP, qE, qD⟩ := q; exact ⟨q0, q1, qP, kE_call qE, qD⟩, va_recv hK hP (ci := 8) (q0 := 1) rfl rfl, fun U hU hW => ⟨rfl, by rw [hU], by rw [hU]; exact hPc, kE_warm hW hE, hDc.weaken (fun _ _ _ _ => trivial)⟩⟩ rfl rfl hl.1 rfl (lv_room (Nat.le_of_ble_eq_true rfl)) dX10_feed_6 ⟨Nat.le_of_ble_eq_true rfl, Nat.le_of_ble_eq_true rfl⟩) hS (fun q _ h => hFc q h) hFc (fun r1 u t H locs ht hvm w2 hB hz1 hk1 hS => ?_)
  obtain ⟨hP1, hD1⟩ := hB
  try dsimp only at w2
  obtain ⟨hPa, hDa⟩ := hJn (w1 := [(ot, .inr (8, oX8 t_bytes x_t))]) hk1 ht hP1 hD1
  clear hP hD hPc hDc hFc hJn hP1 hD1 hk1
  have hP : va_P (dC, dI) vwCl [(op, .inr (10, oX10 ot on dn rd oc d o si w se nb hi p_status oe ih mb p_imageStatus x_p)), (t_bytes, .inl (kB, 700, .inl f_t_bytes)), (ot, .inr (8, oX8 t_bytes x_t))] H := hPa
  have hD : va_D A [(op, .inr (10, oX10 ot on dn rd oc d o si w se nb hi p_status oe ih mb p_imageStatus x_p)), (t_bytes, .inl (kB, 700, .inl f_t_bytes)), (ot, .inr (8, oX8 t_bytes x_t))] := hDa
  clear hPa hDa
  refine W.widen (k := 0) (n := 0) (Nat.le_of_ble_eq_true rfl) (Nat.le_of_ble_eq_true rfl) ?_
  obtain rfl : r1 = 1 := iv_one w2 (by decide)
  refine lv_if_ne (tgt := 14) hx hb dX10_feed_9 rfl (fun _ => ?_) (fun c9 => absurd c9 (by decide))
  refine lv_aload_n hx hb dX10_feed_14 rfl (lv_at hl 0 rfl) ?_
  refine va_get (D := (dC, dI)) (ci := 10) (v := .ref ot) (C := RX10) (T := TX10) (N := 19) hx hb hts hin10 hown hK hP 0 rfl rfl 0 (Nat.le_of_ble_eq_true rfl) hw_0 (fun _ h9 => h9) rfl dX10_feed_15 ?_
  refine lv_iload_n hx hb dX10_feed_18 rfl (lv_at hl 1 rfl) ?_
  obtain ⟨hPc, hDc, hFc, hJn⟩ := cl_a (wc := [(ot, .inr (8, oX8 t_bytes x_t)), (t_bytes, .inl (kB, 700, .inl f_t_bytes))]) (wr := [(op, .inr (10, oX10 ot on dn rd oc d o si w se nb hi p_status oe ih mb p_imageStatus x_p))]) hP hD hS hA [2, 1] [0] rfl rfl (by decide +kernel)
  refine va_callv (va_runV (As := [.int p0]) (rest := []) ⟨hx, hb, hml, hown, hts⟩ (s8_append_x l dC dI kB kI kJ kZ kC kS H.size ot t_bytes x_t f_t_bytes p0 (hx_t) (hf_t_bytes) ((iv_w hfl (by decide) (by decide)))) (cwV 1 hts gX10_feed_X8_append rfl rfl rfl (by decide +kernel) ⟨Nat.le_of_ble_eq_true rfl, Nat.le_of_ble_eq_true rfl⟩) ⟨fun a U g mk q => by obtain ⟨q0, q1, qP, qE, qD⟩ := q; exact ⟨q0, q1, qP, kE_call qE, qD⟩, va_recv hK hP (ci := 8) (q0 := 2) rfl rfl, fun U hU hW => ⟨rfl, by rw [hU], by rw [hU]; exact hPc, kE_warm hW hE, hDc.weaken (fun _ _ _ _ => trivial)⟩⟩ rfl rfl hl.1 rfl (lv_room (Nat.le_of_ble_eq_true rfl)) dX10_feed_19 ⟨Nat.le_of_ble_eq_true rfl, Nat.le_of_ble_eq_true rfl⟩) hS (fun q _ h => hFc q h) hFc (fun u t H locs ht hvm w4 hB hz1 hk1 hS => ?_)
  obtain ⟨y5, f6, hq7, hq8, hq9, hq10, hq11, hP1, hD1⟩ := hB
  try dsimp only at w4
  obtain ⟨hPa, hDa⟩ := hJn (w1 := [(ot, .inr (8, oX8 t_bytes y5)), (t_bytes, .inl (kB, 700, .inl f6))]) hk1 ht hP1 hD1
  clear hP hD hPc hDc hFc hJn hP1 hD1 hk1
  have hP : va_P (dC, dI) vwCl [(op, .inr (10, oX10 ot on dn rd oc d o si w se nb hi p_status oe ih mb p_imageStatus x_p)), (ot, .inr (8, oX8 t_bytes y5)), (t_bytes, .inl (kB, 700, .inl f6))] H := hPa
  have hD : va_D A [(op, .inr (10, oX10 ot on dn rd oc d o si w se nb hi p_status oe ih mb p_imageStatus x_p)), (ot, .inr (8, oX8 t_bytes y5)), (t_bytes, .inl (kB, 700, .inl f6))] := hDa
  clear hPa hDa
  refine W.widen (k := 0) (n := 0) (Nat.le_of_ble_eq_true rfl) (Nat.le_of_ble_eq_true rfl) ?_
  have b12 : iv 4 684 (y5 0) := iv_eqc hq9 hfl (by decide) (by decide)
  refine lv_aload_n hx hb dX10_feed_22 rfl (lv_at hl 0 rfl) ?_
  refine va_get (D := (dC, dI)) (ci := 10) (v := .ref ot) (C := RX10) (T := TX10) (N := 19) hx hb hts hin10 hown hK hP 0 rfl rfl 0 (Nat.le_of_ble_eq_true rfl) hw_0 (fun _ h9 => h9) rfl dX10_feed_23 ?_
  refine lv_iload_n hx hb dX10_feed_26 rfl (lv_at hl 2 rfl) ?_
  obtain ⟨hPc, hDc, hFc, hJn⟩ := cl_a (wc := [(ot, .inr (8, oX8 t_bytes y5)), (t_bytes, .inl (kB, 700, .inl f6))]) (wr := [(op, .inr (10, oX10 ot on dn rd oc d o si w se nb hi p_status oe ih mb p_imageStatus x_p))]) hP hD hS hA [1, 2] [0] rfl rfl (by decide +kernel)
  refine va_callv (va_runV (As := [.int p1]) (rest := []) ⟨hx, hb, hml, hown, hts⟩ (s8_append_x l dC dI kB kI kJ kZ kC kS H.size ot t_bytes y5 f6 p1 (hq7) (hq8) ((iv_w b12 (by decide) (by decide)))) (cwV 1 hts gX10_feed_X8_append rfl rfl rfl (by decide +kernel) ⟨Nat.le_of_ble_eq_true rfl, Nat.le_of_ble_eq_true rfl⟩) ⟨fun a U g mk q => by obtain ⟨q0, q1, qP, qE, qD⟩ := q; exact ⟨q0, q1, qP, kE_call qE, qD⟩, va_recv hK hP (ci := 8) (q0 := 1) rfl rfl, fun U hU hW => ⟨rfl, by rw [hU], by rw [hU]; exact hPc, kE_warm hW hE, hDc.weaken (fun _ _ _ _ => trivial)⟩⟩ rfl rfl hl.1 rfl (lv_room (Nat.le_of_ble_eq_true rfl)) dX10_feed_27 ⟨Nat.le_of_ble_eq_true rfl, Nat.le_of_ble_eq_true rfl⟩) hS (fun q _ h => hFc q h) hFc (fun u t H locs ht hvm w14 hB hz1 hk1 hS => ?_)
  obtain ⟨y15, f16, hq17, hq18, hq19, hq20, hq21, hP1, hD1⟩ := hB
  try dsimp only at w14
  obtain ⟨hPa, hDa⟩ := hJn (w1 := [(ot, .inr (8, oX8 t_bytes y15)), (t_bytes, .inl (kB, 700, .inl f16))]) hk1 ht hP1 hD1
  clear hP hD hPc hDc hFc hJn hP1 hD1 hk1
  have hP : va_P (dC, dI) vwCl [(op, .inr (10, oX10 ot on dn rd oc d o si w se nb hi p_status oe ih mb p_imageStatus x_p)), (ot, .inr (8, oX8 t_bytes y15)), (t_bytes, .inl (kB, 700, .inl f16))] H := hPa
  have hD : va_D A [(op, .inr (10, oX10 ot on dn rd oc d o si w se nb hi p_status oe ih mb p_imageStatus x_p)), (ot, .inr (8, oX8 t_bytes y15)), (t_bytes, .inl (kB, 700, .inl f16))] := hDa
  clear hPa hDa
  refine W.widen (k := 0) (n := 0) (Nat.le_of_ble_eq_true rfl) (Nat.le_of_ble_eq_true rfl) ?_
  have b22 : iv 8 688 (y15 0) := iv_eqc hq19 b12 (by decide) (by decide)
  refine lv_aload_n hx hb dX10_feed_30 rfl (lv_at hl 0 rfl) ?_
  refine va_get (D := (dC, dI)) (ci := 10) (v := .ref ot) (C := RX10) (T := TX10) (N := 19) hx hb hts hin10 hown hK hP 0 rfl rfl 0 (Nat.le_of_ble_eq_true rfl) hw_0 (fun _ h9 => h9) rfl dX10_feed_31 ?_
  refine lv_iload_n hx hb dX10_feed_34 rfl (lv_at hl 3 rfl) ?_
  obtain ⟨hPc, hDc, hFc, hJn⟩ := cl_a (wc := [(ot, .inr (8, oX8 t_bytes y15)), (t_bytes, .inl (kB, 700, .inl f16))]) (wr := [(op, .inr (10, oX10 ot on dn rd oc d o si w se nb hi p_status oe ih mb p_imageStatus x_p))]) hP hD hS hA [1, 2] [0] rfl rfl (by decide +kernel)
  refine va_callv (va_runV (As := [.int p2]) (rest := []) ⟨hx, hb, hml, hown, hts⟩ (s8_append_x l dC dI kB kI kJ kZ kC kS H.size ot t_bytes y15 f16 p2 (hq17) (hq18) ((iv_w b22 (by decide) (by decide)))) (cwV 1 hts gX10_feed_X8_append rfl rfl rfl (by decide +kernel) ⟨Nat.le_of_ble_eq_true rfl, Nat.le_of_ble_eq_true rfl⟩) ⟨fun a U g mk q => by obtain ⟨q0, q1, qP, qE, qD⟩ := q; exact ⟨q0, q1, qP, kE_call qE, qD⟩, va_recv hK hP (ci := 8) (q0 := 1) rfl rfl, fun U hU hW => ⟨rfl, by rw [hU], by rw [hU]; exact hPc, kE_warm hW hE, hDc.weaken (fun _ _ _ _ => trivial)⟩⟩ rfl rfl hl.1 rfl (lv_room (Nat.le_of_ble_eq_true rfl)) dX10_feed_35 ⟨Nat.le_of_ble_eq_true rfl, Nat.le_of_ble_eq_true rfl⟩) hS (fun q _ h => hFc q h) hFc (fun u t H locs ht hvm w24 hB hz1 hk1 hS => ?_)
  obtain ⟨y25, f26, hq27, hq28, hq29, hq30, hq31, hP1, hD1⟩ := hB
  try dsimp only at w24
  obtain ⟨hPa, hDa⟩ := hJn (w1 := [(ot, .inr (8, oX8 t_bytes y25)), (t_bytes, .inl (kB, 700, .inl f26))]) hk1 ht hP1 hD1
  clear hP hD hPc hDc hFc hJn hP1 hD1 hk1
  have hP : va_P (dC, dI) vwCl [(op, .inr (10, oX10 ot on dn rd oc d o si w se nb hi p_status oe ih mb p_imageStatus x_p)), (ot, .inr (8, oX8 t_bytes y25)), (t_bytes, .inl (kB, 700, .inl f26))] H := hPa
  have hD : va_D A [(op, .inr (10, oX10 ot on dn rd oc d o si w se nb hi p_status oe ih mb p_imageStatus x_p)), (ot, .inr (8, oX8 t_bytes y25)), (t_bytes, .inl (kB, 700, .inl f26))] := hDa
  clear hPa hDa
  refine W.widen (k := 0) (n := 0) (Nat.le_of_ble_eq_true rfl) (Nat.le_of_ble_eq_true rfl) ?_
  have b32 : iv 12 692 (y25 0) := iv_eqc hq29 b22 (by decide) (by decide)
  refine lv_aload_n hx hb dX10_feed_38 rfl (lv_at hl 0 rfl) ?_
  refine va_get (D := (dC, dI)) (ci := 10) (v := .ref ot) (C := RX10) (T := TX10) (N := 19) hx hb hts hin10 hown hK hP 0 rfl rfl 0 (Nat.le_of_ble_eq_true rfl) hw_0 (fun _ h9 => h9) rfl dX10_feed_39 ?_
  refine lv_iload hx hb dX10_feed_42 (lv_at hl 4 rfl) ?_
  obtain ⟨hPc, hDc, hFc, hJn⟩ := cl_a (wc := [(ot, .inr (8, oX8 t_bytes y25)), (t_bytes, .inl (kB, 700, .inl f26))]) (wr := [(op, .inr (10, oX10 ot on dn rd oc d o si w se nb hi p_status oe ih mb p_imageStatus x_p))]) hP hD hS hA [1, 2] [0] rfl rfl (by decide +kernel)
  refine va_callv (va_runV (As := [.int p3]) (rest := []) ⟨hx, hb, hml, hown, hts⟩ (s8_append_x l dC dI kB kI kJ kZ kC kS H.size ot t_bytes y25 f26 p3 (hq27) (hq28) ((iv_w b32 (by decide) (by decide)))) (cwV 1 hts gX10_feed_X8_append rfl rfl rfl (by decide +kernel) ⟨Nat.le_of_ble_eq_true rfl, Nat.le_of_ble_eq_true rfl⟩) ⟨fun a U g mk q => by obtain ⟨q0, q1, qP, qE, qD⟩ := q; exact ⟨q0, q1, qP, kE_call qE, qD⟩, va_recv hK hP (ci := 8) (q0 := 1) rfl rfl, fun U hU hW => ⟨rfl, by rw [hU], by rw [hU]; exact hPc, kE_warm hW hE, hDc.weaken (fun _ _ _ _ => trivial)⟩⟩ rfl rfl hl.1 rfl (lv_room (Nat.le_of_ble_eq_true rfl)) dX10_feed_44 ⟨Nat.le_of_ble_eq_true rfl, Nat.le_of_ble_eq_true rfl⟩) hS (fun q _ h => hFc q h) hFc (fun u t H locs ht hvm w34 hB hz1 hk1 hS => ?_)
  obtain ⟨y35, f36, hq37, hq38, hq39, hq40, hq41, hP1, hD1⟩ := hB
  try dsimp only at w34
  obtain ⟨hPa, hDa⟩ := hJn (w1 := [(ot, .inr (8, oX8 t_bytes y35)), (t_bytes, .inl (kB, 700, .inl f36))]) hk1 ht hP1 hD1
  clear hP hD hPc hDc hFc hJn hP1 hD1 hk1
  have hP : va_P (dC, dI) vwCl [(op, .inr (10, oX10 ot on dn rd oc d o si w se nb hi p_status oe ih mb p_imageStatus x_p)), (ot, .inr (8, oX8 t_bytes y35)), (t_bytes, .inl (kB, 700, .inl f36))] H := hPa
  have hD : va_D A [(op, .inr (10, oX10 ot on dn rd oc d o si w se nb hi p_status oe ih mb p_imageStatus x_p)), (ot, .inr (8, oX8 t_bytes y35)), (t_bytes, .inl (kB, 700, .inl f36))] := hDa
  clear hPa hDa
  refine W.widen (k := 0) (n := 0) (Nat.le_of_ble_eq_true rfl) (Nat.le_of_ble_eq_true rfl) ?_
  have b42 : iv 16 696 (y35 0) := iv_eqc hq39 b32 (by decide) (by decide)
  refine lv_aload_n hx hb dX10_feed_47 rfl (lv_at hl 0 rfl) ?_
  refine va_get (D := (dC, dI)) (ci := 10) (v := .ref ot) (C := RX10) (T := TX10) (N := 19) hx hb hts hin10 hown hK hP 0 rfl rfl 0 (Nat.le_of_ble_eq_true rfl) hw_0 (fun _ h9 => h9) rfl dX10_feed_48 ?_
  refine lv_iload hx hb dX10_feed_51 (lv_at hl 5 rfl) ?_
  obtain ⟨hPc, hDc, hFc, hJn⟩ := cl_a (wc := [(ot, .inr (8, oX8 t_bytes y35)), (t_bytes, .inl (kB, 700, .inl f36))]) (wr := [(op, .inr (10, oX10 ot on dn rd oc d o si w se nb hi p_status oe ih mb p_imageStatus x_p))]) hP hD hS hA [1, 2] [0] rfl rfl (by decide +kernel)
  refine va_callv (va_runV (As := [.int p4]) (rest := []) ⟨hx, hb, hml, hown, hts⟩ (s8_append_x l dC dI kB kI kJ kZ kC kS H.size ot t_bytes y35 f36 p4 (hq37) (hq38) ((iv_w b42 (by decide) (by decide)))) (cwV 1 hts gX10_feed_X8_append rfl rfl rfl (by decide +kernel) ⟨Nat.le_of_ble_eq_true rfl, Nat.le_of_ble_eq_true rfl⟩) ⟨fun a U g mk q => by obtain ⟨q0, q1, qP, qE, qD⟩ := q; exact ⟨q0, q1, qP, kE_call qE, qD⟩, va_recv hK hP (ci := 8) (q0 := 1) rfl rfl, fun U hU hW => ⟨rfl, by rw [hU], by rw [hU]; exact hPc, kE_warm hW hE, hDc.weaken (fun _ _ _ _ => trivial)⟩⟩ rfl rfl hl.1 rfl (lv_room (Nat.le_of_ble_eq_true rfl)) dX10_feed_53 ⟨Nat.le_of_ble_eq_true rfl, Nat.le_of_ble_eq_true rfl⟩) hS (fun q _ h => hFc q h) hFc (fun u t H locs ht hvm w44 hB hz1 hk1 hS => ?_)
  obtain ⟨y45, f46, hq47, hq48, hq49, hq50, hq51, hP1, hD1⟩ := hB
  try dsimp only at w44
  obtain ⟨hPa, hDa⟩ := hJn (w1 := [(ot, .inr (8, oX8 t_bytes y45)), (t_bytes, .inl (kB, 700, .inl f46))]) hk1 ht hP1 hD1
  clear hP hD hPc hDc hFc hJn hP1 hD1 hk1
  have hP : va_P (dC, dI) vwCl [(op, .inr (10, oX10 ot on dn rd oc d o si w se nb hi p_status oe ih mb p_imageStatus x_p)), (ot, .inr (8, oX8 t_bytes y45)), (t_bytes, .inl (kB, 700, .inl f46))] H := hPa
  have hD : va_D A [(op, .inr (10, oX10 ot on dn rd oc d o si w se nb hi p_status oe ih mb p_imageStatus x_p)), (ot, .inr (8, oX8 t_bytes y45)), (t_bytes, .inl (kB, 700, .inl f46))] := hDa
  clear hPa hDa
  refine W.widen (k := 0) (n := 0) (Nat.le_of_ble_eq_true rfl) (Nat.le_of_ble_eq_true rfl) ?_
  have b52 : iv 20 700 (y45 0) := iv_eqc hq49 b42 (by decide) (by decide)
  refine lv_aload_n hx hb dX10_feed_56 rfl (lv_at hl 0 rfl) ?_
  refine va_get (D := (dC, dI)) (ci := 10) (v := .ref ot) (C := RX10) (T := TX10) (N := 19) hx hb hts hin10 hown hK hP 0 rfl rfl 0 (Nat.le_of_ble_eq_true rfl) hw_0 (fun _ h9 => h9) rfl dX10_feed_57 ?_
  refine va_get (D := (dC, dI)) (ci := 8) (v := .int (y45 0)) (C := RX8) (T := TX8) (N := 2) hx hb hts hin8 hown hK hP 1 rfl rfl 1 (Nat.le_of_ble_eq_true rfl) hw_1 (fun _ h9 => h9) rfl dX10_feed_60 ?_
  have hP9 := hP
  have hD9 := hD
  exact W.iret (v := y45 0) hx hb hr (fun t ht hW => ⟨⟨y45 0, (), rfl, ⟨b52, by omega⟩, y45, f46, hq47, hq48, (show (y45 0).toInt = (x_t 0).toInt + 20 from by omega), (show f46 = fedC f_t_bytes (x_t 0) p0 p1 p2 p3 p4 from by rw [hq51, hq41, hq31, hq21, hq11, hq40, hq30, hq20, hq10]; rfl), by rw [ht]; exact hP9, hD9⟩, hS.F ht⟩) hS.2.2 dX10_feed_63
def rm_s10_feed_full : Room := { frames := 1, cells := 0, slots := 0, locals := 21 }
set_option maxHeartbeats 4000000 in
set_option maxRecDepth 100000 in
theorem s10_feed_full (l : Launch) (dC : Nat → ClassId) (dI : Nat → Nat → Nat) (kB kI kJ kZ kC kS : ClassId) (sz : Nat) (op : Nat) (ot : Nat) (on : Nat) (dn : Nat) (rd : Nat) (oc : Nat) (d : Nat) (o : Nat) (si : Nat) (w : Nat) (se : Nat) (nb : Nat) (hi : Nat) (p_status : Nat) (oe : Nat) (ih : Nat) (mb : Nat) (p_imageStatus : Nat) (x_p : Nat → Int32) (t_bytes : Nat) (x_t : Nat → Int32) (p0 : Int32) (p1 : Int32) (p2 : Int32) (p3 : Int32) (p4 : Int32) (hx_t : fI lX8 hX8 x_t) (hfl : iv 681 700 (x_t 0)) : Met l yX10_feed wsX10_feed rm_s10_feed_full (va_Pc [.ref op, .int p0, .int p1, .int p2, .int p3, .int p4] (fun U => U.heap.size = sz ∧ va_P (dC, dI) vwCl [(op, .inr (10, oX10 ot on dn rd oc d o si w se nb hi p_status oe ih mb p_imageStatus x_p)), (ot, .inr (8, oX8 t_bytes x_t))] U.heap ∧ kE dC dI kB kI kJ kZ kC kS U ∧ va_D (fun _ => True) [(op, .inr (10, oX10 ot on dn rd oc d o si w se nb hi p_status oe ih mb p_imageStatus x_p)), (ot, .inr (8, oX8 t_bytes x_t))])) (va_Qi (fun (r : Int32) (_ : Unit) => iv (-1) (-1) r) (fun _ t => va_P (dC, dI) vwCl [(op, .inr (10, oX10 ot on dn rd oc d o si w se nb hi p_status oe ih mb p_imageStatus x_p)), (ot, .inr (8, oX8 t_bytes x_t))] t.heap ∧ va_D (va_A [(op, .inr (10, oX10 ot on dn rd oc d o si w se nb hi p_status oe ih mb p_imageStatus x_p)), (ot, .inr (8, oX8 t_bytes x_t))] sz) [(op, .inr (10, oX10 ot on dn rd oc d o si w se nb hi p_status oe ih mb p_imageStatus x_p)), (ot, .inr (8, oX8 t_bytes x_t))]) (va_A [(op, .inr (10, oX10 ot on dn rd oc d o si w se nb hi p_status oe ih mb p_imageStatus x_p)), (ot, .inr (8, oX8 t_bytes x_t))] sz)) 0 0 (va_A [(op, .inr (10, oX10 ot on dn rd oc d o si w se nb hi p_status oe ih mb p_imageStatus x_p)), (ot, .inr (8, oX8 t_bytes x_t))] sz) := by
  refine Met.ofW (cc := cX10_feed) (maxL := 6) (ret := (some .int)) (by decide) rfl ?_
  intro p e s m args0 below meth c s₁ B hml hv
  obtain ⟨hargs, hsz, hP, hE, hD0⟩ := hv
  have hx := B.exec
  have hb := B.bytes
  have hr := B.returns
  have hts := atoms_spec (ws := wsX10_feed) B.pre
  have hown : s.vm.findClass RX10 = some m.cls := findClass_of_methodNamed B.named
  have hlocks := B.notSynchronized
  have hK := hE.1
  have hin10 : ∀ w ∈ wsX100, w ∈ wsX10_feed := fun _ h9 => List.mem_cons_of_mem _ (List.mem_append_left _ (List.mem_append_right _ h9))
  have hin8 : ∀ w ∈ wsX80, w ∈ wsX10_feed := fun _ h9 => List.mem_cons_of_mem _ (List.mem_append_right _ h9)
  have hw_0 := hts (.fieldLink RX10 12 "PathProber" "tape" "LPathProber$Tape;") (List.mem_of_getElem? (i := 1) rfl)
  subst hsz
  have hD := hD0.self (sz := s.heap.size)
  generalize hAe : va_A [(op, .inr (10, oX10 ot on dn rd oc d o si w se nb hi p_status oe ih mb p_imageStatus x_p)), (ot, .inr (8, oX8 t_bytes x_t))] s.heap.size = A at hD ⊢
  have hA : ∀ q : Nat, s.heap.size ≤ q → A q := fun q h => by rw [← hAe]; exact Or.inr h
  have hS : va_S A s.heap s.heap [] := va_S.rf
  have hP : va_P (dC, dI) vwCl [(op, .inr (10, oX10 ot on dn rd oc d o si w se nb hi p_status oe ih mb p_imageStatus x_p)), (ot, .inr (8, oX8 t_bytes x_t))] s.heap := hP
  have hl := lv_entry ([.ref op, .int p0, .int p1, .int p2, .int p3, .int p4]) (n := 6) (Nat.le_of_ble_eq_true rfl)
  have hla : entryFrame m args0 6 = entryFrame m ([.ref op, .int p0, .int p1, .int p2, .int p3, .int p4] : List Value).toArray 6 := by rw [hargs]
  rw [hla, lg_entry_eq]
  generalize (lg_sl ([.ref op, .int p0, .int p1, .int p2, .int p3, .int p4]) ++ List.replicate (6 - (lg_sl ([.ref op, .int p0, .int p1, .int p2, .int p3, .int p4])).length) Slot.unset).toArray = ls at hl ⊢
  have hl : lv_has ls 6 [(0, .ref op), (1, .int p0), (2, .int p1), (3, .int p2), (4, .int p3), (5, .int p4)] := hl
  refine lv_aload_n hx hb dX10_feed_0 rfl (lv_at hl 0 rfl) ?_
  refine va_get (D := (dC, dI)) (ci := 10) (v := .ref ot) (C := RX10) (T := TX10) (N := 19) hx hb hts hin10 hown hK hP 0 rfl rfl 0 (Nat.le_of_ble_eq_true rfl) hw_0 (fun _ h9 => h9) rfl dX10_feed_1 ?_
  refine lv_bipush (v := 20) hx hb dX10_feed_4 bp_20 ?_
  obtain ⟨hPc, hDc, hFc, hJn⟩ := cl_a (wc := [(ot, .inr (8, oX8 t_bytes x_t))]) (wr := [(op, .inr (10, oX10 ot on dn rd oc d o si w se nb hi p_status oe ih mb p_imageStatus x_p))]) hP hD hS hA [1] [0] rfl rfl (by decide +kernel)
  refine va_calli (va_runV (As := [.int 20]) (rest := []) ⟨hx, hb, hml, hown, hts⟩ (s8_hasRoomFor_no l dC dI kB kI kJ kZ kC kS s.heap.size ot t_bytes x_t (hx_t) (hfl)) (cwV 1 hts gX10_feed_X8_hasRoomFor rfl rfl rfl (by decide +kernel) ⟨Nat.le_of_ble_eq_true rfl, Nat.le_of_ble_eq_true rfl⟩) ⟨fun a U g mk q => by obtain ⟨q0, q1, qP, qE, qD⟩ := q; exact ⟨q0, q1, qP, kE_call qE, qD⟩, va_recv hK hP (ci := 8) (q0 := 1) rfl rfl, fun U hU hW => ⟨rfl, by rw [hU], by rw [hU]; exact hPc, kE_warm hW hE, hDc.weaken (fun _ _ _ _ => trivial)⟩⟩ rfl rfl hl.1 rfl (lv_room (Nat.le_of_ble_eq_true rfl)) dX10_feed_6 ⟨Nat.le_of_ble_eq_true rfl, Nat.le_of_ble_eq_true rfl⟩) hS (fun q _ h => hFc q h) hFc (fun r1 u t H locs ht hvm w2 hB hz1 hk1 hS => ?_)
  obtain ⟨hP1, hD1⟩ := hB
  try dsimp only at w2
  obtain ⟨hPa, hDa⟩ := hJn (w1 := [(ot, .inr (8, oX8 t_bytes x_t))]) hk1 ht hP1 hD1
  clear hP hD hPc hDc hFc hJn hP1 hD1 hk1
  have hP : va_P (dC, dI) vwCl [(op, .inr (10, oX10 ot on dn rd oc d o si w se nb hi p_status oe ih mb p_imageStatus x_p)), (ot, .inr (8, oX8 t_bytes x_t))] H := hPa
  have hD : va_D A [(op, .inr (10, oX10 ot on dn rd oc d o si w se nb hi p_status oe ih mb p_imageStatus x_p)), (ot, .inr (8, oX8 t_bytes x_t))] := hDa
  clear hPa hDa
  refine W.widen (k := 0) (n := 0) (Nat.le_of_ble_eq_true rfl) (Nat.le_of_ble_eq_true rfl) ?_
  obtain rfl : r1 = 0 := iv_one w2 (by decide)
  refine lv_if_ne (tgt := 14) hx hb dX10_feed_9 rfl (fun c9 => absurd (by decide) c9) (fun _ => ?_)
  refine lv_iconst (v := (-1)) hx hb dX10_feed_12 ic_m1 ?_
  have hP9 := hP
  have hD9 := hD
  exact W.iret (v := (-1)) hx hb hr (fun t ht hW => ⟨⟨(-1), (), rfl, ivk_m1, by rw [ht]; exact hP9, hD9⟩, hS.F ht⟩) hS.2.2 dX10_feed_13
def rm_s11_feed_room : Room := { frames := 0, cells := 0, slots := 0, locals := 0 }
set_option maxHeartbeats 4000000 in
set_option maxRecDepth 100000 in
theorem s11_feed_room (l : Launch) (dC : Nat → ClassId) (dI : Nat → Nat → Nat) (kB kI kJ kZ kC kS : ClassId) (sz : Nat) (m0 : Nat) (ra : Nat → Nat) (x0 : Nat → Int32) (q_tape : Nat → Int32) (p0 : Int32) (p1 : Int32) (p2 : Int32) (p3 : Int32) (p4 : Int32) (hX : fI lX11 hX11 x0) (hq_tape : fI (fun _ => 0) (fun _ => 255) q_tape) (hflr : iv 0 680 (x0 1)) : Met l yX11_feed wsX11_feed rm_s11_feed_room (va_Pc [.ref m0, .int p0, .int p1, .int p2, .int p3, .int p4] (fun U => U.heap.size = sz ∧ va_P (dC, dI) vwCl [(m0, .inr (11, oX11 ra x0)), (ra 13, .inl (kI, 700, .inl q_tape))] U.heap ∧ kE dC dI kB kI kJ kZ kC kS U ∧ va_D (fun _ => True) [(m0, .inr (11, oX11 ra x0)), (ra 13, .inl (kI, 700, .inl q_tape))])) (va_Qi (fun (r : Int32) (_ : Unit) => iv 0 700 r ∧ (r.toInt = (x0 1).toInt + 20)) (fun _ t => ∃ (x0' : Nat → Int32) (q_tape' : Nat → Int32), fI lX11 hX11 x0' ∧ fI (fun _ => 0) (fun _ => 255) q_tape' ∧ ((x0' 1).toInt = (x0 1).toInt + 20) ∧ (q_tape' = fedR q_tape (x0 1) p0 p1 p2 p3 p4) ∧ (x0' 10 = x0 10) ∧ (x0' 11 = x0 11) ∧ (x0' 14 = x0 14) ∧ va_P (dC, dI) vwCl [(m0, .inr (11, oX11 ra x0')), (ra 13, .inl (kI, 700, .inl q_tape'))] t.heap ∧ va_D (va_A [(m0, .inr (11, oX11 ra x0)), (ra 13, .inl (kI, 700, .inl q_tape))] sz) [(m0, .inr (11, oX11 ra x0')), (ra 13, .inl (kI, 700, .inl q_tape'))]) (va_A [(m0, .inr (11, oX11 ra x0)), (ra 13, .inl (kI, 700, .inl q_tape))] sz)) 0 0 (va_A [(m0, .inr (11, oX11 ra x0)), (ra 13, .inl (kI, 700, .inl q_tape))] sz) := by
  refine Met.ofW (cc := cX11_feed) (maxL := 8) (ret := (some .int)) (by decide) rfl ?_
  intro p e s m args0 below meth c s₁ B hml hv
  obtain ⟨hargs, hsz, hP, hE, hD0⟩ := hv
  have hx := B.exec
  have hb := B.bytes
  have hr := B.returns
  have hts := atoms_spec (ws := wsX11_feed) B.pre
  have hown : s.vm.findClass RX11 = some m.cls := findClass_of_methodNamed B.named
  have hlocks := B.notSynchronized
  have hK := hE.1
  have hin11 : ∀ w ∈ wsX110, w ∈ wsX11_feed := fun _ h9 => List.mem_cons_of_mem _ (List.mem_append_right _ h9)
  have hw_0 := hts (.fieldLink RX11 145 "PathProberModel" "taped" "I") (List.mem_of_getElem? (i := 2) rfl)
  have hw_1 := hts (.fieldLink RX11 66 "PathProberModel" "tape" "[I") (List.mem_of_getElem? (i := 3) rfl)
  have hw_2 := hts (.fieldLink RX11 142 "PathProberModel" "code" "I") (List.mem_of_getElem? (i := 1) rfl)
  subst hsz
  have hD := hD0.self (sz := s.heap.size)
  generalize hAe : va_A [(m0, .inr (11, oX11 ra x0)), (ra 13, .inl (kI, 700, .inl q_tape))] s.heap.size = A at hD ⊢
  have hA : ∀ q : Nat, s.heap.size ≤ q → A q := fun q h => by rw [← hAe]; exact Or.inr h
  have hS : va_S A s.heap s.heap [] := va_S.rf
  have hP : va_P (dC, dI) vwCl [(m0, .inr (11, oX11 ra x0)), (ra 13, .inl (kI, 700, .inl q_tape))] s.heap := hP
  have hl := lv_entry ([.ref m0, .int p0, .int p1, .int p2, .int p3, .int p4]) (n := 8) (Nat.le_of_ble_eq_true rfl)
  have hla : entryFrame m args0 8 = entryFrame m ([.ref m0, .int p0, .int p1, .int p2, .int p3, .int p4] : List Value).toArray 8 := by rw [hargs]
  rw [hla, lg_entry_eq]
  generalize (lg_sl ([.ref m0, .int p0, .int p1, .int p2, .int p3, .int p4]) ++ List.replicate (8 - (lg_sl ([.ref m0, .int p0, .int p1, .int p2, .int p3, .int p4])).length) Slot.unset).toArray = ls at hl ⊢
  have hl : lv_has ls 8 [(0, .ref m0), (1, .int p0), (2, .int p1), (3, .int p2), (4, .int p3), (5, .int p4)] := hl
  have hJ23 : ∀ (n : Nat) (y23_0 : Nat → Int32) (g23_1 : Nat → Int32) (v23_loc6 : Int32) (H : Heap) (locs : List Loc) (ls : Array Slot), (20 - v23_loc6.toInt).toNat < n → fI lX11 hX11 y23_0 → fI (fun _ => 0) (fun _ => 255) g23_1 → iv 0 20 v23_loc6 → iv 0 0 (y23_0 0) → iv 20 700 ((x0 1) + 20) → ((y23_0 1).toInt = (x0 1).toInt + v23_loc6.toInt) → ((x0 1).toInt + 20 ≤ 700) → (g23_1 = fdK q_tape (x0 1) p0 p1 p2 p3 p4 v23_loc6.toNatClampNeg ∧ y23_0 1 = itT (x0 1) v23_loc6.toNatClampNeg) → (y23_0 10 = x0 10) → (y23_0 11 = x0 11) → (y23_0 14 = x0 14) → va_P (dC, dI) vwCl [(m0, .inr (11, oX11 ra y23_0)), (ra 13, .inl (kI, 700, .inl g23_1))] H → va_D A [(m0, .inr (11, oX11 ra y23_0)), (ra 13, .inl (kI, 700, .inl g23_1))] → va_S A s.heap H locs → lv_has ls 8 [(0, .ref m0), (1, .int p0), (2, .int p1), (3, .int p2), (4, .int p3), (5, .int p4), (6, .int v23_loc6)] → W p l e (headSpec wsX11_feed rm_s11_feed_room).room s m args0 below meth c H locs (0) (0) (MQ below (va_Qi (fun (r : Int32) (_ : Unit) => iv 0 700 r ∧ (r.toInt = (x0 1).toInt + 20)) (fun _ t => ∃ (x0' : Nat → Int32) (q_tape' : Nat → Int32), fI lX11 hX11 x0' ∧ fI (fun _ => 0) (fun _ => 255) q_tape' ∧ ((x0' 1).toInt = (x0 1).toInt + 20) ∧ (q_tape' = fedR q_tape (x0 1) p0 p1 p2 p3 p4) ∧ (x0' 10 = x0 10) ∧ (x0' 11 = x0 11) ∧ (x0' 14 = x0 14) ∧ va_P (dC, dI) vwCl [(m0, .inr (11, oX11 ra x0')), (ra 13, .inl (kI, 700, .inl q_tape'))] t.heap ∧ va_D A [(m0, .inr (11, oX11 ra x0')), (ra 13, .inl (kI, 700, .inl q_tape'))]) A) args0 s 0 0 A) (F0 m 23 ls []) := by
    intro n
    induction n with
    | zero => intro y23_0 g23_1 v23_loc6 H locs ls hm23; exact absurd hm23 (Nat.not_lt_zero _)
    | succ n ih23 =>
      intro y23_0 g23_1 v23_loc6 H locs ls hm23 hI23_0 hI23_1 h23_3 h23_4 h23_5 hfd_23 hro_23 hfk_23 hfp_23 hor_23 hirl_23 hP hD hS hl
      refine lv_iload hx hb dX11_feed_23 (lv_at hl 6 rfl) ?_
      refine lv_bipush (v := 20) hx hb dX11_feed_25 bp_20 ?_
      refine lv_icmp_ge (tgt := 120) hx hb dX11_feed_27 rfl (fun c1 => ?_) (fun c1 => ?_)
      · have b2 : iv 20 20 v23_loc6 := iv_leR c1 ivk_20 h23_3 (by decide) (by decide)
        refine lv_aload_n hx hb dX11_feed_120 rfl (lv_at hl 0 rfl) ?_
        refine va_get (D := (dC, dI)) (ci := 11) (v := .int (y23_0 1)) (C := RX11) (T := TX11) (N := 61) hx hb hts hin11 hown hK hP 0 rfl rfl 15 (Nat.le_of_ble_eq_true rfl) hw_0 (fun _ h9 => h9) rfl dX11_feed_121 ?_
        have hP9 := hP
        have hD9 := hD
        exact W.iret (v := y23_0 1) hx hb hr (fun t ht hW => ⟨⟨y23_0 1, (), rfl, ⟨(hI23_0 1 : iv 0 700 (y23_0 1)), by have q5 := hfd_23; have q6 := b2; have q7 := q6.1; have q8 := q6.2; omega⟩, y23_0, g23_1, hI23_0, hI23_1, (show (y23_0 1).toInt = (x0 1).toInt + 20 from by have q5 := hfd_23; have q6 := b2; have q7 := q6.1; have q8 := q6.2; omega), (show g23_1 = fedR q_tape (x0 1) p0 p1 p2 p3 p4 from fk_e hfk_23.1 (iv_w b2 (by decide) (by decide)) c1), (show y23_0 10 = x0 10 from hfp_23), (show y23_0 11 = x0 11 from hor_23), (show y23_0 14 = x0 14 from hirl_23), by rw [ht]; exact hP9, hD9⟩, hS.F ht⟩) hS.2.2 dX11_feed_124
      · have b3 : iv 0 19 v23_loc6 := iv_ltL (Int32.not_le.mp c1) h23_3 ivk_20 (by decide) (by decide)
        refine lv_iload hx hb dX11_feed_30 (lv_at hl 6 rfl) ?_
        refine lv_iconst (v := 4) hx hb dX11_feed_32 ic_4 ?_
        refine lv_icmp_ge (tgt := 40) hx hb dX11_feed_33 rfl (fun c4 => ?_) (fun c4 => ?_)
        · have b5 : iv 4 19 v23_loc6 := iv_leR c4 ivk_4 b3 (by decide) (by decide)
          refine lv_iload hx hb dX11_feed_40 (lv_at hl 6 rfl) ?_
          refine lv_bipush (v := 8) hx hb dX11_feed_42 bp_8 ?_
          refine lv_icmp_ge (tgt := 51) hx hb dX11_feed_44 rfl (fun c6 => ?_) (fun c6 => ?_)
          · have b7 : iv 8 19 v23_loc6 := iv_leR c6 ivk_8 b5 (by decide) (by decide)
            refine lv_iload hx hb dX11_feed_51 (lv_at hl 6 rfl) ?_
            refine lv_bipush (v := 12) hx hb dX11_feed_53 bp_12 ?_
            refine lv_icmp_ge (tgt := 62) hx hb dX11_feed_55 rfl (fun c8 => ?_) (fun c8 => ?_)
            · have b9 : iv 12 19 v23_loc6 := iv_leR c8 ivk_12 b7 (by decide) (by decide)
              refine lv_iload hx hb dX11_feed_62 (lv_at hl 6 rfl) ?_
              refine lv_bipush (v := 16) hx hb dX11_feed_64 bp_16 ?_
              refine lv_icmp_ge (tgt := 74) hx hb dX11_feed_66 rfl (fun c10 => ?_) (fun c10 => ?_)
              · have b11 : iv 16 19 v23_loc6 := iv_leR c10 ivk_16 b9 (by decide) (by decide)
                refine lv_iload hx hb dX11_feed_74 (lv_at hl 5 rfl) ?_
                refine lv_istore (lv' := [(7, .int p4), (0, .ref m0), (1, .int p0), (2, .int p1), (3, .int p2), (4, .int p3), (5, .int p4), (6, .int v23_loc6)]) hx hb dX11_feed_76 hl (Nat.le_of_ble_eq_true rfl) rfl (fun ls hl => ?_)
                have b12 : iv 0 699 (y23_0 1) := feed_699 hfd_23 hro_23 (hI23_0 1 : iv 0 700 (y23_0 1)) (iv_w b11 (by decide) (by decide))
                refine lv_aload_n hx hb dX11_feed_78 rfl (lv_at hl 1 rfl) ?_
                refine va_get (D := (dC, dI)) (ci := 11) (v := .ref (ra 13)) (C := RX11) (T := TX11) (N := 61) hx hb hts hin11 hown hK hP 0 rfl rfl 14 (Nat.le_of_ble_eq_true rfl) hw_1 (fun _ h9 => h9) rfl dX11_feed_79 ?_
                refine lv_aload_n hx hb dX11_feed_82 rfl (lv_at hl 1 rfl) ?_
                refine va_get (D := (dC, dI)) (ci := 11) (v := .int (y23_0 1)) (C := RX11) (T := TX11) (N := 61) hx hb hts hin11 hown hK hP 0 rfl rfl 15 (Nat.le_of_ble_eq_true rfl) hw_0 (fun _ h9 => h9) rfl dX11_feed_83 ?_
                refine lv_iload hx hb dX11_feed_86 (lv_at hl 0 rfl) ?_
                refine lv_bipush (v := 24) hx hb dX11_feed_88 bp_24 ?_
                refine lv_bipush (v := 8) hx hb dX11_feed_90 bp_8 ?_
                refine lv_iload hx hb dX11_feed_92 (lv_at hl 7 rfl) ?_
                refine lv_iconst (v := 4) hx hb dX11_feed_94 ic_4 ?_
                refine lv_irem hx hb dX11_feed_95 (by decide) ?_
                have b13 : iv 0 3 (v23_loc6 - v23_loc6 / 4 * 4) := iv_rem b11 ivk_4 (by decide) (by decide) (by decide) (by decide)
                refine lv_imul hx hb dX11_feed_96 ?_
                have b14 : iv 0 24 (8 * (v23_loc6 - v23_loc6 / 4 * 4)) := iv_mul ivk_8 b13 (by decide) (by decide) (by decide) (by decide) (by decide)
                refine lv_isub hx hb dX11_feed_97 ?_
                have b15 : iv 0 24 (24 - (8 * (v23_loc6 - v23_loc6 / 4 * 4))) := iv_sub ivk_24 b14 (by decide) (by decide) (by decide) (by decide)
                refine lv_ishr hx hb dX11_feed_98 ?_
                refine lv_sipush (v := 255) hx hb dX11_feed_99 (by decide) ?_
                refine lv_iand hx hb dX11_feed_102 ?_
                have b16 : iv 0 255 ((p4 >>> ((24 - (8 * (v23_loc6 - v23_loc6 / 4 * 4)) : Int32) &&& 31)) &&& 255) := iv_and (m := 255) (by decide) (by decide) (by decide)
                refine va_iast hx hb hK hP hD hS 1 1 rfl rfl (iv_in b12 (by decide) (by decide)) dX11_feed_103 (fun H locs hPa hDa hS => ?_)
                clear hP hD
                have hP : va_P (dC, dI) vwCl [(m0, .inr (11, oX11 ra y23_0)), (ra 13, .inl (kI, 700, .inl (upd g23_1 (y23_0 1).toNatClampNeg ((p4 >>> ((24 - (8 * (v23_loc6 - v23_loc6 / 4 * 4)) : Int32) &&& 31)) &&& 255))))] H := hPa
                have hD : va_D A [(m0, .inr (11, oX11 ra y23_0)), (ra 13, .inl (kI, 700, .inl (upd g23_1 (y23_0 1).toNatClampNeg ((p4 >>> ((24 - (8 * (v23_loc6 - v23_loc6 / 4 * 4)) : Int32) &&& 31)) &&& 255))))] := hDa
                clear hPa hDa
                have hf19 : fI (fun _ => 0) (fun _ => 255) (upd g23_1 (y23_0 1).toNatClampNeg ((p4 >>> ((24 - (8 * (v23_loc6 - v23_loc6 / 4 * 4)) : Int32) &&& 31)) &&& 255)) := fI_u hI23_1 (k := (y23_0 1).toNatClampNeg) (b16)
                have hfk18 : (upd g23_1 (y23_0 1).toNatClampNeg ((p4 >>> ((24 - (8 * (v23_loc6 - v23_loc6 / 4 * 4)) : Int32) &&& 31)) &&& 255)) = fdK q_tape (x0 1) p0 p1 p2 p3 p4 (v23_loc6 + Int32.ofInt 1).toNatClampNeg := fk_s hfk_23 (iv_w b11 (by decide) (by decide)) (wq_4 c4 c6 c8 c10)
                generalize (upd g23_1 (y23_0 1).toNatClampNeg ((p4 >>> ((24 - (8 * (v23_loc6 - v23_loc6 / 4 * 4)) : Int32) &&& 31)) &&& 255)) = f17 at hP hD hf19 hfk18
                refine lv_aload_n hx hb dX11_feed_104 rfl (lv_at hl 1 rfl) ?_
                refine lv_dup hx hb dX11_feed_105 rfl ?_
                refine va_get (D := (dC, dI)) (ci := 11) (v := .int (y23_0 1)) (C := RX11) (T := TX11) (N := 61) hx hb hts hin11 hown hK hP 0 rfl rfl 15 (Nat.le_of_ble_eq_true rfl) hw_0 (fun _ h9 => h9) rfl dX11_feed_106 ?_
                refine lv_iconst (v := 1) hx hb dX11_feed_109 ic_1 ?_
                refine lv_iadd hx hb dX11_feed_110 ?_
                have b20 : iv 1 700 ((y23_0 1) + 1) := iv_add b12 ivk_1 (by decide) (by decide) (by decide) (by decide)
                have t21 : ((y23_0 1) + 1).toInt = (y23_0 1).toInt + 1 := iv_addc b12 (by decide) (by decide) (by decide)
                refine va_put (D := (dC, dI)) (ci := 11) (v := .int ((y23_0 1) + 1)) (ty := .int) (C := RX11) (T := TX11) (N := 61) hx hb hts hin11 tyX11 tyX11_ok nmX11 hown hK hP hD hS 0 rfl rfl 15 (by decide) hw_0 (fun _ h9 => h9) rfl (by decide +kernel) rfl rfl (Nat.le_of_ble_eq_true rfl) dX11_feed_111 (fun H locs hPa hDa hS => ?_)
                clear hP hD
                have hP : va_P (dC, dI) vwCl [(m0, .inr (11, oX11 ra (upd y23_0 1 ((y23_0 1) + 1)))), (ra 13, .inl (kI, 700, .inl f17))] H := hPa
                have hD : va_D A [(m0, .inr (11, oX11 ra (upd y23_0 1 ((y23_0 1) + 1)))), (ra 13, .inl (kI, 700, .inl f17))] := hDa
                clear hPa hDa
                refine lv_iinc (v := v23_loc6 + Int32.ofInt 1) (lv' := [(6, .int (v23_loc6 + Int32.ofInt 1)), (7, .int p4), (0, .ref m0), (1, .int p0), (2, .int p1), (3, .int p2), (4, .int p3), (5, .int p4)]) hx hb dX11_feed_114 hl (k := 7) rfl (rfl) (Nat.le_of_ble_eq_true rfl) rfl (fun ls hl => ?_)
                have b22 : iv 17 20 (v23_loc6 + Int32.ofInt 1) := iv_add b11 ivo_1 (by decide) (by decide) (by decide) (by decide)
                have t23 : (v23_loc6 + Int32.ofInt 1).toInt = v23_loc6.toInt + 1 := iv_inc 1 b11 (by decide) (by decide) (by decide) (by decide)
                refine lv_goto (tgt := 23) hx hb dX11_feed_117 rfl ?_
                exact ih23 (upd y23_0 1 ((y23_0 1) + 1)) f17 (v23_loc6 + Int32.ofInt 1) _ _ _ (ms_up (c := 1) (d := 0) b11 hm23 (by decide) (iv_inc 1 b11 (by decide) (by decide) (by decide) (by decide)) (by decide) rfl) ((fI_u hI23_0 (k := 1) ((iv_w b20 (by decide) (by decide))))) (hf19) ((iv_w b22 (by decide) (by decide))) (h23_4) (h23_5) ((show ((y23_0 1) + 1).toInt = (x0 1).toInt + (v23_loc6 + Int32.ofInt 1).toInt from by have q5 := hfd_23; omega)) ((show (x0 1).toInt + 20 ≤ 700 from hro_23)) ((show f17 = fdK q_tape (x0 1) p0 p1 p2 p3 p4 (v23_loc6 + Int32.ofInt 1).toNatClampNeg ∧ (y23_0 1) + 1 = itT (x0 1) (v23_loc6 + Int32.ofInt 1).toNatClampNeg from ⟨hfk18, fk_t hfk_23.2 (iv_w b11 (by decide) (by decide))⟩)) ((show y23_0 10 = x0 10 from hfp_23)) ((show y23_0 11 = x0 11 from hor_23)) ((show y23_0 14 = x0 14 from hirl_23)) (hP) (hD) hS (lv_sub hl [2, 3, 4, 5, 6, 7, 0] rfl)
              · have b24 : iv 12 15 v23_loc6 := iv_ltL (Int32.not_le.mp c10) b9 ivk_16 (by decide) (by decide)
                refine lv_iload hx hb dX11_feed_69 (lv_at hl 4 rfl) ?_
                refine lv_goto (tgt := 76) hx hb dX11_feed_71 rfl ?_
                refine lv_istore (lv' := [(7, .int p3), (0, .ref m0), (1, .int p0), (2, .int p1), (3, .int p2), (4, .int p3), (5, .int p4), (6, .int v23_loc6)]) hx hb dX11_feed_76 hl (Nat.le_of_ble_eq_true rfl) rfl (fun ls hl => ?_)
                have b25 : iv 0 699 (y23_0 1) := feed_699 hfd_23 hro_23 (hI23_0 1 : iv 0 700 (y23_0 1)) (iv_w b24 (by decide) (by decide))
                refine lv_aload_n hx hb dX11_feed_78 rfl (lv_at hl 1 rfl) ?_
                refine va_get (D := (dC, dI)) (ci := 11) (v := .ref (ra 13)) (C := RX11) (T := TX11) (N := 61) hx hb hts hin11 hown hK hP 0 rfl rfl 14 (Nat.le_of_ble_eq_true rfl) hw_1 (fun _ h9 => h9) rfl dX11_feed_79 ?_
                refine lv_aload_n hx hb dX11_feed_82 rfl (lv_at hl 1 rfl) ?_
                refine va_get (D := (dC, dI)) (ci := 11) (v := .int (y23_0 1)) (C := RX11) (T := TX11) (N := 61) hx hb hts hin11 hown hK hP 0 rfl rfl 15 (Nat.le_of_ble_eq_true rfl) hw_0 (fun _ h9 => h9) rfl dX11_feed_83 ?_
                refine lv_iload hx hb dX11_feed_86 (lv_at hl 0 rfl) ?_
                refine lv_bipush (v := 24) hx hb dX11_feed_88 bp_24 ?_
                refine lv_bipush (v := 8) hx hb dX11_feed_90 bp_8 ?_
                refine lv_iload hx hb dX11_feed_92 (lv_at hl 7 rfl) ?_
                refine lv_iconst (v := 4) hx hb dX11_feed_94 ic_4 ?_
                refine lv_irem hx hb dX11_feed_95 (by decide) ?_
                have b26 : iv 0 3 (v23_loc6 - v23_loc6 / 4 * 4) := iv_rem b24 ivk_4 (by decide) (by decide) (by decide) (by decide)
                refine lv_imul hx hb dX11_feed_96 ?_
                have b27 : iv 0 24 (8 * (v23_loc6 - v23_loc6 / 4 * 4)) := iv_mul ivk_8 b26 (by decide) (by decide) (by decide) (by decide) (by decide)
                refine lv_isub hx hb dX11_feed_97 ?_
                have b28 : iv 0 24 (24 - (8 * (v23_loc6 - v23_loc6 / 4 * 4))) := iv_sub ivk_24 b27 (by decide) (by decide) (by decide) (by decide)
                refine lv_ishr hx hb dX11_feed_98 ?_
                refine lv_sipush (v := 255) hx hb dX11_feed_99 (by decide) ?_
                refine lv_iand hx hb dX11_feed_102 ?_
                have b29 : iv 0 255 ((p3 >>> ((24 - (8 * (v23_loc6 - v23_loc6 / 4 * 4)) : Int32) &&& 31)) &&& 255) := iv_and (m := 255) (by decide) (by decide) (by decide)
                refine va_iast hx hb hK hP hD hS 1 1 rfl rfl (iv_in b25 (by decide) (by decide)) dX11_feed_103 (fun H locs hPa hDa hS => ?_)
                clear hP hD
                have hP : va_P (dC, dI) vwCl [(m0, .inr (11, oX11 ra y23_0)), (ra 13, .inl (kI, 700, .inl (upd g23_1 (y23_0 1).toNatClampNeg ((p3 >>> ((24 - (8 * (v23_loc6 - v23_loc6 / 4 * 4)) : Int32) &&& 31)) &&& 255))))] H := hPa
                have hD : va_D A [(m0, .inr (11, oX11 ra y23_0)), (ra 13, .inl (kI, 700, .inl (upd g23_1 (y23_0 1).toNatClampNeg ((p3 >>> ((24 - (8 * (v23_loc6 - v23_loc6 / 4 * 4)) : Int32) &&& 31)) &&& 255))))] := hDa
                clear hPa hDa
                have hf32 : fI (fun _ => 0) (fun _ => 255) (upd g23_1 (y23_0 1).toNatClampNeg ((p3 >>> ((24 - (8 * (v23_loc6 - v23_loc6 / 4 * 4)) : Int32) &&& 31)) &&& 255)) := fI_u hI23_1 (k := (y23_0 1).toNatClampNeg) (b29)
                have hfk31 : (upd g23_1 (y23_0 1).toNatClampNeg ((p3 >>> ((24 - (8 * (v23_loc6 - v23_loc6 / 4 * 4)) : Int32) &&& 31)) &&& 255)) = fdK q_tape (x0 1) p0 p1 p2 p3 p4 (v23_loc6 + Int32.ofInt 1).toNatClampNeg := fk_s hfk_23 (iv_w b24 (by decide) (by decide)) (wq_3 c4 c6 c8 (Int32.not_le.mp c10))
                generalize (upd g23_1 (y23_0 1).toNatClampNeg ((p3 >>> ((24 - (8 * (v23_loc6 - v23_loc6 / 4 * 4)) : Int32) &&& 31)) &&& 255)) = f30 at hP hD hf32 hfk31
                refine lv_aload_n hx hb dX11_feed_104 rfl (lv_at hl 1 rfl) ?_
                refine lv_dup hx hb dX11_feed_105 rfl ?_
                refine va_get (D := (dC, dI)) (ci := 11) (v := .int (y23_0 1)) (C := RX11) (T := TX11) (N := 61) hx hb hts hin11 hown hK hP 0 rfl rfl 15 (Nat.le_of_ble_eq_true rfl) hw_0 (fun _ h9 => h9) rfl dX11_feed_106 ?_
                refine lv_iconst (v := 1) hx hb dX11_feed_109 ic_1 ?_
                refine lv_iadd hx hb dX11_feed_110 ?_
                have b33 : iv 1 700 ((y23_0 1) + 1) := iv_add b25 ivk_1 (by decide) (by decide) (by decide) (by decide)
                have t34 : ((y23_0 1) + 1).toInt = (y23_0 1).toInt + 1 := iv_addc b25 (by decide) (by decide) (by decide)
                refine va_put (D := (dC, dI)) (ci := 11) (v := .int ((y23_0 1) + 1)) (ty := .int) (C := RX11) (T := TX11) (N := 61) hx hb hts hin11 tyX11 tyX11_ok nmX11 hown hK hP hD hS 0 rfl rfl 15 (by decide) hw_0 (fun _ h9 => h9) rfl (by decide +kernel) rfl rfl (Nat.le_of_ble_eq_true rfl) dX11_feed_111 (fun H locs hPa hDa hS => ?_)
                clear hP hD
                have hP : va_P (dC, dI) vwCl [(m0, .inr (11, oX11 ra (upd y23_0 1 ((y23_0 1) + 1)))), (ra 13, .inl (kI, 700, .inl f30))] H := hPa
                have hD : va_D A [(m0, .inr (11, oX11 ra (upd y23_0 1 ((y23_0 1) + 1)))), (ra 13, .inl (kI, 700, .inl f30))] := hDa
                clear hPa hDa
                refine lv_iinc (v := v23_loc6 + Int32.ofInt 1) (lv' := [(6, .int (v23_loc6 + Int32.ofInt 1)), (7, .int p3), (0, .ref m0), (1, .int p0), (2, .int p1), (3, .int p2), (4, .int p3), (5, .int p4)]) hx hb dX11_feed_114 hl (k := 7) rfl (rfl) (Nat.le_of_ble_eq_true rfl) rfl (fun ls hl => ?_)
                have b35 : iv 13 16 (v23_loc6 + Int32.ofInt 1) := iv_add b24 ivo_1 (by decide) (by decide) (by decide) (by decide)
                have t36 : (v23_loc6 + Int32.ofInt 1).toInt = v23_loc6.toInt + 1 := iv_inc 1 b24 (by decide) (by decide) (by decide) (by decide)
                refine lv_goto (tgt := 23) hx hb dX11_feed_117 rfl ?_
                exact ih23 (upd y23_0 1 ((y23_0 1) + 1)) f30 (v23_loc6 + Int32.ofInt 1) _ _ _ (ms_up (c := 1) (d := 0) b24 hm23 (by decide) (iv_inc 1 b24 (by decide) (by decide) (by decide) (by decide)) (by decide) rfl) ((fI_u hI23_0 (k := 1) ((iv_w b33 (by decide) (by decide))))) (hf32) ((iv_w b35 (by decide) (by decide))) (h23_4) (h23_5) ((show ((y23_0 1) + 1).toInt = (x0 1).toInt + (v23_loc6 + Int32.ofInt 1).toInt from by have q5 := hfd_23; omega)) ((show (x0 1).toInt + 20 ≤ 700 from hro_23)) ((show f30 = fdK q_tape (x0 1) p0 p1 p2 p3 p4 (v23_loc6 + Int32.ofInt 1).toNatClampNeg ∧ (y23_0 1) + 1 = itT (x0 1) (v23_loc6 + Int32.ofInt 1).toNatClampNeg from ⟨hfk31, fk_t hfk_23.2 (iv_w b24 (by decide) (by decide))⟩)) ((show y23_0 10 = x0 10 from hfp_23)) ((show y23_0 11 = x0 11 from hor_23)) ((show y23_0 14 = x0 14 from hirl_23)) (hP) (hD) hS (lv_sub hl [2, 3, 4, 5, 6, 7, 0] rfl)
            · have b37 : iv 8 11 v23_loc6 := iv_ltL (Int32.not_le.mp c8) b7 ivk_12 (by decide) (by decide)
              refine lv_iload_n hx hb dX11_feed_58 rfl (lv_at hl 3 rfl) ?_
              refine lv_goto (tgt := 76) hx hb dX11_feed_59 rfl ?_
              refine lv_istore (lv' := [(7, .int p2), (0, .ref m0), (1, .int p0), (2, .int p1), (3, .int p2), (4, .int p3), (5, .int p4), (6, .int v23_loc6)]) hx hb dX11_feed_76 hl (Nat.le_of_ble_eq_true rfl) rfl (fun ls hl => ?_)
              have b38 : iv 0 699 (y23_0 1) := feed_699 hfd_23 hro_23 (hI23_0 1 : iv 0 700 (y23_0 1)) (iv_w b37 (by decide) (by decide))
              refine lv_aload_n hx hb dX11_feed_78 rfl (lv_at hl 1 rfl) ?_
              refine va_get (D := (dC, dI)) (ci := 11) (v := .ref (ra 13)) (C := RX11) (T := TX11) (N := 61) hx hb hts hin11 hown hK hP 0 rfl rfl 14 (Nat.le_of_ble_eq_true rfl) hw_1 (fun _ h9 => h9) rfl dX11_feed_79 ?_
              refine lv_aload_n hx hb dX11_feed_82 rfl (lv_at hl 1 rfl) ?_
              refine va_get (D := (dC, dI)) (ci := 11) (v := .int (y23_0 1)) (C := RX11) (T := TX11) (N := 61) hx hb hts hin11 hown hK hP 0 rfl rfl 15 (Nat.le_of_ble_eq_true rfl) hw_0 (fun _ h9 => h9) rfl dX11_feed_83 ?_
              refine lv_iload hx hb dX11_feed_86 (lv_at hl 0 rfl) ?_
              refine lv_bipush (v := 24) hx hb dX11_feed_88 bp_24 ?_
              refine lv_bipush (v := 8) hx hb dX11_feed_90 bp_8 ?_
              refine lv_iload hx hb dX11_feed_92 (lv_at hl 7 rfl) ?_
              refine lv_iconst (v := 4) hx hb dX11_feed_94 ic_4 ?_
              refine lv_irem hx hb dX11_feed_95 (by decide) ?_
              have b39 : iv 0 3 (v23_loc6 - v23_loc6 / 4 * 4) := iv_rem b37 ivk_4 (by decide) (by decide) (by decide) (by decide)
              refine lv_imul hx hb dX11_feed_96 ?_
              have b40 : iv 0 24 (8 * (v23_loc6 - v23_loc6 / 4 * 4)) := iv_mul ivk_8 b39 (by decide) (by decide) (by decide) (by decide) (by decide)
              refine lv_isub hx hb dX11_feed_97 ?_
              have b41 : iv 0 24 (24 - (8 * (v23_loc6 - v23_loc6 / 4 * 4))) := iv_sub ivk_24 b40 (by decide) (by decide) (by decide) (by decide)
              refine lv_ishr hx hb dX11_feed_98 ?_
              refine lv_sipush (v := 255) hx hb dX11_feed_99 (by decide) ?_
              refine lv_iand hx hb dX11_feed_102 ?_
              have b42 : iv 0 255 ((p2 >>> ((24 - (8 * (v23_loc6 - v23_loc6 / 4 * 4)) : Int32) &&& 31)) &&& 255) := iv_and (m := 255) (by decide) (by decide) (by decide)
              refine va_iast hx hb hK hP hD hS 1 1 rfl rfl (iv_in b38 (by decide) (by decide)) dX11_feed_103 (fun H locs hPa hDa hS => ?_)
              clear hP hD
              have hP : va_P (dC, dI) vwCl [(m0, .inr (11, oX11 ra y23_0)), (ra 13, .inl (kI, 700, .inl (upd g23_1 (y23_0 1).toNatClampNeg ((p2 >>> ((24 - (8 * (v23_loc6 - v23_loc6 / 4 * 4)) : Int32) &&& 31)) &&& 255))))] H := hPa
              have hD : va_D A [(m0, .inr (11, oX11 ra y23_0)), (ra 13, .inl (kI, 700, .inl (upd g23_1 (y23_0 1).toNatClampNeg ((p2 >>> ((24 - (8 * (v23_loc6 - v23_loc6 / 4 * 4)) : Int32) &&& 31)) &&& 255))))] := hDa
              clear hPa hDa
              have hf45 : fI (fun _ => 0) (fun _ => 255) (upd g23_1 (y23_0 1).toNatClampNeg ((p2 >>> ((24 - (8 * (v23_loc6 - v23_loc6 / 4 * 4)) : Int32) &&& 31)) &&& 255)) := fI_u hI23_1 (k := (y23_0 1).toNatClampNeg) (b42)
              have hfk44 : (upd g23_1 (y23_0 1).toNatClampNeg ((p2 >>> ((24 - (8 * (v23_loc6 - v23_loc6 / 4 * 4)) : Int32) &&& 31)) &&& 255)) = fdK q_tape (x0 1) p0 p1 p2 p3 p4 (v23_loc6 + Int32.ofInt 1).toNatClampNeg := fk_s hfk_23 (iv_w b37 (by decide) (by decide)) (wq_2 c4 c6 (Int32.not_le.mp c8))
              generalize (upd g23_1 (y23_0 1).toNatClampNeg ((p2 >>> ((24 - (8 * (v23_loc6 - v23_loc6 / 4 * 4)) : Int32) &&& 31)) &&& 255)) = f43 at hP hD hf45 hfk44
              refine lv_aload_n hx hb dX11_feed_104 rfl (lv_at hl 1 rfl) ?_
              refine lv_dup hx hb dX11_feed_105 rfl ?_
              refine va_get (D := (dC, dI)) (ci := 11) (v := .int (y23_0 1)) (C := RX11) (T := TX11) (N := 61) hx hb hts hin11 hown hK hP 0 rfl rfl 15 (Nat.le_of_ble_eq_true rfl) hw_0 (fun _ h9 => h9) rfl dX11_feed_106 ?_
              refine lv_iconst (v := 1) hx hb dX11_feed_109 ic_1 ?_
              refine lv_iadd hx hb dX11_feed_110 ?_
              have b46 : iv 1 700 ((y23_0 1) + 1) := iv_add b38 ivk_1 (by decide) (by decide) (by decide) (by decide)
              have t47 : ((y23_0 1) + 1).toInt = (y23_0 1).toInt + 1 := iv_addc b38 (by decide) (by decide) (by decide)
              refine va_put (D := (dC, dI)) (ci := 11) (v := .int ((y23_0 1) + 1)) (ty := .int) (C := RX11) (T := TX11) (N := 61) hx hb hts hin11 tyX11 tyX11_ok nmX11 hown hK hP hD hS 0 rfl rfl 15 (by decide) hw_0 (fun _ h9 => h9) rfl (by decide +kernel) rfl rfl (Nat.le_of_ble_eq_true rfl) dX11_feed_111 (fun H locs hPa hDa hS => ?_)
              clear hP hD
              have hP : va_P (dC, dI) vwCl [(m0, .inr (11, oX11 ra (upd y23_0 1 ((y23_0 1) + 1)))), (ra 13, .inl (kI, 700, .inl f43))] H := hPa
              have hD : va_D A [(m0, .inr (11, oX11 ra (upd y23_0 1 ((y23_0 1) + 1)))), (ra 13, .inl (kI, 700, .inl f43))] := hDa
              clear hPa hDa
              refine lv_iinc (v := v23_loc6 + Int32.ofInt 1) (lv' := [(6, .int (v23_loc6 + Int32.ofInt 1)), (7, .int p2), (0, .ref m0), (1, .int p0), (2, .int p1), (3, .int p2), (4, .int p3), (5, .int p4)]) hx hb dX11_feed_114 hl (k := 7) rfl (rfl) (Nat.le_of_ble_eq_true rfl) rfl (fun ls hl => ?_)
              have b48 : iv 9 12 (v23_loc6 + Int32.ofInt 1) := iv_add b37 ivo_1 (by decide) (by decide) (by decide) (by decide)
              have t49 : (v23_loc6 + Int32.ofInt 1).toInt = v23_loc6.toInt + 1 := iv_inc 1 b37 (by decide) (by decide) (by decide) (by decide)
              refine lv_goto (tgt := 23) hx hb dX11_feed_117 rfl ?_
              exact ih23 (upd y23_0 1 ((y23_0 1) + 1)) f43 (v23_loc6 + Int32.ofInt 1) _ _ _ (ms_up (c := 1) (d := 0) b37 hm23 (by decide) (iv_inc 1 b37 (by decide) (by decide) (by decide) (by decide)) (by decide) rfl) ((fI_u hI23_0 (k := 1) ((iv_w b46 (by decide) (by decide))))) (hf45) ((iv_w b48 (by decide) (by decide))) (h23_4) (h23_5) ((show ((y23_0 1) + 1).toInt = (x0 1).toInt + (v23_loc6 + Int32.ofInt 1).toInt from by have q5 := hfd_23; omega)) ((show (x0 1).toInt + 20 ≤ 700 from hro_23)) ((show f43 = fdK q_tape (x0 1) p0 p1 p2 p3 p4 (v23_loc6 + Int32.ofInt 1).toNatClampNeg ∧ (y23_0 1) + 1 = itT (x0 1) (v23_loc6 + Int32.ofInt 1).toNatClampNeg from ⟨hfk44, fk_t hfk_23.2 (iv_w b37 (by decide) (by decide))⟩)) ((show y23_0 10 = x0 10 from hfp_23)) ((show y23_0 11 = x0 11 from hor_23)) ((show y23_0 14 = x0 14 from hirl_23)) (hP) (hD) hS (lv_sub hl [2, 3, 4, 5, 6, 7, 0] rfl)
          · have b50 : iv 4 7 v23_loc6 := iv_ltL (Int32.not_le.mp c6) b5 ivk_8 (by decide) (by decide)
            refine lv_iload_n hx hb dX11_feed_47 rfl (lv_at hl 2 rfl) ?_
            refine lv_goto (tgt := 76) hx hb dX11_feed_48 rfl ?_
            refine lv_istore (lv' := [(7, .int p1), (0, .ref m0), (1, .int p0), (2, .int p1), (3, .int p2), (4, .int p3), (5, .int p4), (6, .int v23_loc6)]) hx hb dX11_feed_76 hl (Nat.le_of_ble_eq_true rfl) rfl (fun ls hl => ?_)
            have b51 : iv 0 699 (y23_0 1) := feed_699 hfd_23 hro_23 (hI23_0 1 : iv 0 700 (y23_0 1)) (iv_w b50 (by decide) (by decide))
            refine lv_aload_n hx hb dX11_feed_78 rfl (lv_at hl 1 rfl) ?_
            refine va_get (D := (dC, dI)) (ci := 11) (v := .ref (ra 13)) (C := RX11) (T := TX11) (N := 61) hx hb hts hin11 hown hK hP 0 rfl rfl 14 (Nat.le_of_ble_eq_true rfl) hw_1 (fun _ h9 => h9) rfl dX11_feed_79 ?_
            refine lv_aload_n hx hb dX11_feed_82 rfl (lv_at hl 1 rfl) ?_
            refine va_get (D := (dC, dI)) (ci := 11) (v := .int (y23_0 1)) (C := RX11) (T := TX11) (N := 61) hx hb hts hin11 hown hK hP 0 rfl rfl 15 (Nat.le_of_ble_eq_true rfl) hw_0 (fun _ h9 => h9) rfl dX11_feed_83 ?_
            refine lv_iload hx hb dX11_feed_86 (lv_at hl 0 rfl) ?_
            refine lv_bipush (v := 24) hx hb dX11_feed_88 bp_24 ?_
            refine lv_bipush (v := 8) hx hb dX11_feed_90 bp_8 ?_
            refine lv_iload hx hb dX11_feed_92 (lv_at hl 7 rfl) ?_
            refine lv_iconst (v := 4) hx hb dX11_feed_94 ic_4 ?_
            refine lv_irem hx hb dX11_feed_95 (by decide) ?_
            have b52 : iv 0 3 (v23_loc6 - v23_loc6 / 4 * 4) := iv_rem b50 ivk_4 (by decide) (by decide) (by decide) (by decide)
            refine lv_imul hx hb dX11_feed_96 ?_
            have b53 : iv 0 24 (8 * (v23_loc6 - v23_loc6 / 4 * 4)) := iv_mul ivk_8 b52 (by decide) (by decide) (by decide) (by decide) (by decide)
            refine lv_isub hx hb dX11_feed_97 ?_
            have b54 : iv 0 24 (24 - (8 * (v23_loc6 - v23_loc6 / 4 * 4))) := iv_sub ivk_24 b53 (by decide) (by decide) (by decide) (by decide)
            refine lv_ishr hx hb dX11_feed_98 ?_
            refine lv_sipush (v := 255) hx hb dX11_feed_99 (by decide) ?_
            refine lv_iand hx hb dX11_feed_102 ?_
            have b55 : iv 0 255 ((p1 >>> ((24 - (8 * (v23_loc6 - v23_loc6 / 4 * 4)) : Int32) &&& 31)) &&& 255) := iv_and (m := 255) (by decide) (by decide) (by decide)
            refine va_iast hx hb hK hP hD hS 1 1 rfl rfl (iv_in b51 (by decide) (by decide)) dX11_feed_103 (fun H locs hPa hDa hS => ?_)
            clear hP hD
            have hP : va_P (dC, dI) vwCl [(m0, .inr (11, oX11 ra y23_0)), (ra 13, .inl (kI, 700, .inl (upd g23_1 (y23_0 1).toNatClampNeg ((p1 >>> ((24 - (8 * (v23_loc6 - v23_loc6 / 4 * 4)) : Int32) &&& 31)) &&& 255))))] H := hPa
            have hD : va_D A [(m0, .inr (11, oX11 ra y23_0)), (ra 13, .inl (kI, 700, .inl (upd g23_1 (y23_0 1).toNatClampNeg ((p1 >>> ((24 - (8 * (v23_loc6 - v23_loc6 / 4 * 4)) : Int32) &&& 31)) &&& 255))))] := hDa
            clear hPa hDa
            have hf58 : fI (fun _ => 0) (fun _ => 255) (upd g23_1 (y23_0 1).toNatClampNeg ((p1 >>> ((24 - (8 * (v23_loc6 - v23_loc6 / 4 * 4)) : Int32) &&& 31)) &&& 255)) := fI_u hI23_1 (k := (y23_0 1).toNatClampNeg) (b55)
            have hfk57 : (upd g23_1 (y23_0 1).toNatClampNeg ((p1 >>> ((24 - (8 * (v23_loc6 - v23_loc6 / 4 * 4)) : Int32) &&& 31)) &&& 255)) = fdK q_tape (x0 1) p0 p1 p2 p3 p4 (v23_loc6 + Int32.ofInt 1).toNatClampNeg := fk_s hfk_23 (iv_w b50 (by decide) (by decide)) (wq_1 c4 (Int32.not_le.mp c6))
            generalize (upd g23_1 (y23_0 1).toNatClampNeg ((p1 >>> ((24 - (8 * (v23_loc6 - v23_loc6 / 4 * 4)) : Int32) &&& 31)) &&& 255)) = f56 at hP hD hf58 hfk57
            refine lv_aload_n hx hb dX11_feed_104 rfl (lv_at hl 1 rfl) ?_
            refine lv_dup hx hb dX11_feed_105 rfl ?_
            refine va_get (D := (dC, dI)) (ci := 11) (v := .int (y23_0 1)) (C := RX11) (T := TX11) (N := 61) hx hb hts hin11 hown hK hP 0 rfl rfl 15 (Nat.le_of_ble_eq_true rfl) hw_0 (fun _ h9 => h9) rfl dX11_feed_106 ?_
            refine lv_iconst (v := 1) hx hb dX11_feed_109 ic_1 ?_
            refine lv_iadd hx hb dX11_feed_110 ?_
            have b59 : iv 1 700 ((y23_0 1) + 1) := iv_add b51 ivk_1 (by decide) (by decide) (by decide) (by decide)
            have t60 : ((y23_0 1) + 1).toInt = (y23_0 1).toInt + 1 := iv_addc b51 (by decide) (by decide) (by decide)
            refine va_put (D := (dC, dI)) (ci := 11) (v := .int ((y23_0 1) + 1)) (ty := .int) (C := RX11) (T := TX11) (N := 61) hx hb hts hin11 tyX11 tyX11_ok nmX11 hown hK hP hD hS 0 rfl rfl 15 (by decide) hw_0 (fun _ h9 => h9) rfl (by decide +kernel) rfl rfl (Nat.le_of_ble_eq_true rfl) dX11_feed_111 (fun H locs hPa hDa hS => ?_)
            clear hP hD
            have hP : va_P (dC, dI) vwCl [(m0, .inr (11, oX11 ra (upd y23_0 1 ((y23_0 1) + 1)))), (ra 13, .inl (kI, 700, .inl f56))] H := hPa
            have hD : va_D A [(m0, .inr (11, oX11 ra (upd y23_0 1 ((y23_0 1) + 1)))), (ra 13, .inl (kI, 700, .inl f56))] := hDa
            clear hPa hDa
            refine lv_iinc (v := v23_loc6 + Int32.ofInt 1) (lv' := [(6, .int (v23_loc6 + Int32.ofInt 1)), (7, .int p1), (0, .ref m0), (1, .int p0), (2, .int p1), (3, .int p2), (4, .int p3), (5, .int p4)]) hx hb dX11_feed_114 hl (k := 7) rfl (rfl) (Nat.le_of_ble_eq_true rfl) rfl (fun ls hl => ?_)
            have b61 : iv 5 8 (v23_loc6 + Int32.ofInt 1) := iv_add b50 ivo_1 (by decide) (by decide) (by decide) (by decide)
            have t62 : (v23_loc6 + Int32.ofInt 1).toInt = v23_loc6.toInt + 1 := iv_inc 1 b50 (by decide) (by decide) (by decide) (by decide)
            refine lv_goto (tgt := 23) hx hb dX11_feed_117 rfl ?_
            exact ih23 (upd y23_0 1 ((y23_0 1) + 1)) f56 (v23_loc6 + Int32.ofInt 1) _ _ _ (ms_up (c := 1) (d := 0) b50 hm23 (by decide) (iv_inc 1 b50 (by decide) (by decide) (by decide) (by decide)) (by decide) rfl) ((fI_u hI23_0 (k := 1) ((iv_w b59 (by decide) (by decide))))) (hf58) ((iv_w b61 (by decide) (by decide))) (h23_4) (h23_5) ((show ((y23_0 1) + 1).toInt = (x0 1).toInt + (v23_loc6 + Int32.ofInt 1).toInt from by have q5 := hfd_23; omega)) ((show (x0 1).toInt + 20 ≤ 700 from hro_23)) ((show f56 = fdK q_tape (x0 1) p0 p1 p2 p3 p4 (v23_loc6 + Int32.ofInt 1).toNatClampNeg ∧ (y23_0 1) + 1 = itT (x0 1) (v23_loc6 + Int32.ofInt 1).toNatClampNeg from ⟨hfk57, fk_t hfk_23.2 (iv_w b50 (by decide) (by decide))⟩)) ((show y23_0 10 = x0 10 from hfp_23)) ((show y23_0 11 = x0 11 from hor_23)) ((show y23_0 14 = x0 14 from hirl_23)) (hP) (hD) hS (lv_sub hl [2, 3, 4, 5, 6, 7, 0] rfl)
        · have b63 : iv 0 3 v23_loc6 := iv_ltL (Int32.not_le.mp c4) b3 ivk_4 (by decide) (by decide)
          refine lv_iload_n hx hb dX11_feed_36 rfl (lv_at hl 1 rfl) ?_
          refine lv_goto (tgt := 76) hx hb dX11_feed_37 rfl ?_
          refine lv_istore (lv' := [(7, .int p0), (0, .ref m0), (1, .int p0), (2, .int p1), (3, .int p2), (4, .int p3), (5, .int p4), (6, .int v23_loc6)]) hx hb dX11_feed_76 hl (Nat.le_of_ble_eq_true rfl) rfl (fun ls hl => ?_)
          have b64 : iv 0 699 (y23_0 1) := feed_699 hfd_23 hro_23 (hI23_0 1 : iv 0 700 (y23_0 1)) (iv_w b63 (by decide) (by decide))
          refine lv_aload_n hx hb dX11_feed_78 rfl (lv_at hl 1 rfl) ?_
          refine va_get (D := (dC, dI)) (ci := 11) (v := .ref (ra 13)) (C := RX11) (T := TX11) (N := 61) hx hb hts hin11 hown hK hP 0 rfl rfl 14 (Nat.le_of_ble_eq_true rfl) hw_1 (fun _ h9 => h9) rfl dX11_feed_79 ?_
          refine lv_aload_n hx hb dX11_feed_82 rfl (lv_at hl 1 rfl) ?_
          refine va_get (D := (dC, dI)) (ci := 11) (v := .int (y23_0 1)) (C := RX11) (T := TX11) (N := 61) hx hb hts hin11 hown hK hP 0 rfl rfl 15 (Nat.le_of_ble_eq_true rfl) hw_0 (fun _ h9 => h9) rfl dX11_feed_83 ?_
          refine lv_iload hx hb dX11_feed_86 (lv_at hl 0 rfl) ?_
          refine lv_bipush (v := 24) hx hb dX11_feed_88 bp_24 ?_
          refine lv_bipush (v := 8) hx hb dX11_feed_90 bp_8 ?_
          refine lv_iload hx hb dX11_feed_92 (lv_at hl 7 rfl) ?_
          refine lv_iconst (v := 4) hx hb dX11_feed_94 ic_4 ?_
          refine lv_irem hx hb dX11_feed_95 (by decide) ?_
          have b65 : iv 0 3 (v23_loc6 - v23_loc6 / 4 * 4) := iv_rem b63 ivk_4 (by decide) (by decide) (by decide) (by decide)
          refine lv_imul hx hb dX11_feed_96 ?_
          have b66 : iv 0 24 (8 * (v23_loc6 - v23_loc6 / 4 * 4)) := iv_mul ivk_8 b65 (by decide) (by decide) (by decide) (by decide) (by decide)
          refine lv_isub hx hb dX11_feed_97 ?_
          have b67 : iv 0 24 (24 - (8 * (v23_loc6 - v23_loc6 / 4 * 4))) := iv_sub ivk_24 b66 (by decide) (by decide) (by decide) (by decide)
          refine lv_ishr hx hb dX11_feed_98 ?_
          refine lv_sipush (v := 255) hx hb dX11_feed_99 (by decide) ?_
          refine lv_iand hx hb dX11_feed_102 ?_
          have b68 : iv 0 255 ((p0 >>> ((24 - (8 * (v23_loc6 - v23_loc6 / 4 * 4)) : Int32) &&& 31)) &&& 255) := iv_and (m := 255) (by decide) (by decide) (by decide)
          refine va_iast hx hb hK hP hD hS 1 1 rfl rfl (iv_in b64 (by decide) (by decide)) dX11_feed_103 (fun H locs hPa hDa hS => ?_)
          clear hP hD
          have hP : va_P (dC, dI) vwCl [(m0, .inr (11, oX11 ra y23_0)), (ra 13, .inl (kI, 700, .inl (upd g23_1 (y23_0 1).toNatClampNeg ((p0 >>> ((24 - (8 * (v23_loc6 - v23_loc6 / 4 * 4)) : Int32) &&& 31)) &&& 255))))] H := hPa
          have hD : va_D A [(m0, .inr (11, oX11 ra y23_0)), (ra 13, .inl (kI, 700, .inl (upd g23_1 (y23_0 1).toNatClampNeg ((p0 >>> ((24 - (8 * (v23_loc6 - v23_loc6 / 4 * 4)) : Int32) &&& 31)) &&& 255))))] := hDa
          clear hPa hDa
          have hf71 : fI (fun _ => 0) (fun _ => 255) (upd g23_1 (y23_0 1).toNatClampNeg ((p0 >>> ((24 - (8 * (v23_loc6 - v23_loc6 / 4 * 4)) : Int32) &&& 31)) &&& 255)) := fI_u hI23_1 (k := (y23_0 1).toNatClampNeg) (b68)
          have hfk70 : (upd g23_1 (y23_0 1).toNatClampNeg ((p0 >>> ((24 - (8 * (v23_loc6 - v23_loc6 / 4 * 4)) : Int32) &&& 31)) &&& 255)) = fdK q_tape (x0 1) p0 p1 p2 p3 p4 (v23_loc6 + Int32.ofInt 1).toNatClampNeg := fk_s hfk_23 (iv_w b63 (by decide) (by decide)) (wq_0 (Int32.not_le.mp c4))
          generalize (upd g23_1 (y23_0 1).toNatClampNeg ((p0 >>> ((24 - (8 * (v23_loc6 - v23_loc6 / 4 * 4)) : Int32) &&& 31)) &&& 255)) = f69 at hP hD hf71 hfk70
          refine lv_aload_n hx hb dX11_feed_104 rfl (lv_at hl 1 rfl) ?_
          refine lv_dup hx hb dX11_feed_105 rfl ?_
          refine va_get (D := (dC, dI)) (ci := 11) (v := .int (y23_0 1)) (C := RX11) (T := TX11) (N := 61) hx hb hts hin11 hown hK hP 0 rfl rfl 15 (Nat.le_of_ble_eq_true rfl) hw_0 (fun _ h9 => h9) rfl dX11_feed_106 ?_
          refine lv_iconst (v := 1) hx hb dX11_feed_109 ic_1 ?_
          refine lv_iadd hx hb dX11_feed_110 ?_
          have b72 : iv 1 700 ((y23_0 1) + 1) := iv_add b64 ivk_1 (by decide) (by decide) (by decide) (by decide)
          have t73 : ((y23_0 1) + 1).toInt = (y23_0 1).toInt + 1 := iv_addc b64 (by decide) (by decide) (by decide)
          refine va_put (D := (dC, dI)) (ci := 11) (v := .int ((y23_0 1) + 1)) (ty := .int) (C := RX11) (T := TX11) (N := 61) hx hb hts hin11 tyX11 tyX11_ok nmX11 hown hK hP hD hS 0 rfl rfl 15 (by decide) hw_0 (fun _ h9 => h9) rfl (by decide +kernel) rfl rfl (Nat.le_of_ble_eq_true rfl) dX11_feed_111 (fun H locs hPa hDa hS => ?_)
          clear hP hD
          have hP : va_P (dC, dI) vwCl [(m0, .inr (11, oX11 ra (upd y23_0 1 ((y23_0 1) + 1)))), (ra 13, .inl (kI, 700, .inl f69))] H := hPa
          have hD : va_D A [(m0, .inr (11, oX11 ra (upd y23_0 1 ((y23_0 1) + 1)))), (ra 13, .inl (kI, 700, .inl f69))] := hDa
          clear hPa hDa
          refine lv_iinc (v := v23_loc6 + Int32.ofInt 1) (lv' := [(6, .int (v23_loc6 + Int32.ofInt 1)), (7, .int p0), (0, .ref m0), (1, .int p0), (2, .int p1), (3, .int p2), (4, .int p3), (5, .int p4)]) hx hb dX11_feed_114 hl (k := 7) rfl (rfl) (Nat.le_of_ble_eq_true rfl) rfl (fun ls hl => ?_)
          have b74 : iv 1 4 (v23_loc6 + Int32.ofInt 1) := iv_add b63 ivo_1 (by decide) (by decide) (by decide) (by decide)
          have t75 : (v23_loc6 + Int32.ofInt 1).toInt = v23_loc6.toInt + 1 := iv_inc 1 b63 (by decide) (by decide) (by decide) (by decide)
          refine lv_goto (tgt := 23) hx hb dX11_feed_117 rfl ?_
          exact ih23 (upd y23_0 1 ((y23_0 1) + 1)) f69 (v23_loc6 + Int32.ofInt 1) _ _ _ (ms_up (c := 1) (d := 0) b63 hm23 (by decide) (iv_inc 1 b63 (by decide) (by decide) (by decide) (by decide)) (by decide) rfl) ((fI_u hI23_0 (k := 1) ((iv_w b72 (by decide) (by decide))))) (hf71) ((iv_w b74 (by decide) (by decide))) (h23_4) (h23_5) ((show ((y23_0 1) + 1).toInt = (x0 1).toInt + (v23_loc6 + Int32.ofInt 1).toInt from by have q5 := hfd_23; omega)) ((show (x0 1).toInt + 20 ≤ 700 from hro_23)) ((show f69 = fdK q_tape (x0 1) p0 p1 p2 p3 p4 (v23_loc6 + Int32.ofInt 1).toNatClampNeg ∧ (y23_0 1) + 1 = itT (x0 1) (v23_loc6 + Int32.ofInt 1).toNatClampNeg from ⟨hfk70, fk_t hfk_23.2 (iv_w b63 (by decide) (by decide))⟩)) ((show y23_0 10 = x0 10 from hfp_23)) ((show y23_0 11 = x0 11 from hor_23)) ((show y23_0 14 = x0 14 from hirl_23)) (hP) (hD) hS (lv_sub hl [2, 3, 4, 5, 6, 7, 0] rfl)
  refine lv_aload_n hx hb dX11_feed_0 rfl (lv_at hl 0 rfl) ?_
  refine lv_iconst (v := 0) hx hb dX11_feed_1 ic_0 ?_
  refine va_put (D := (dC, dI)) (ci := 11) (v := .int 0) (ty := .int) (C := RX11) (T := TX11) (N := 61) hx hb hts hin11 tyX11 tyX11_ok nmX11 hown hK hP hD hS 0 rfl rfl 2 (by decide) hw_2 (fun _ h9 => h9) rfl (by decide +kernel) rfl rfl (Nat.le_of_ble_eq_true rfl) dX11_feed_2 (fun H locs hPa hDa hS => ?_)
  clear hP hD
  have hP : va_P (dC, dI) vwCl [(m0, .inr (11, oX11 ra (upd x0 0 0))), (ra 13, .inl (kI, 700, .inl q_tape))] H := hPa
  have hD : va_D A [(m0, .inr (11, oX11 ra (upd x0 0 0))), (ra 13, .inl (kI, 700, .inl q_tape))] := hDa
  clear hPa hDa
  refine lv_aload_n hx hb dX11_feed_5 rfl (lv_at hl 0 rfl) ?_
  refine va_get (D := (dC, dI)) (ci := 11) (v := .int (x0 1)) (C := RX11) (T := TX11) (N := 61) hx hb hts hin11 hown hK hP 0 rfl rfl 15 (Nat.le_of_ble_eq_true rfl) hw_0 (fun _ h9 => h9) rfl dX11_feed_6 ?_
  refine lv_bipush (v := 20) hx hb dX11_feed_9 bp_20 ?_
  refine lv_iadd hx hb dX11_feed_11 ?_
  have b76 : iv 20 700 ((x0 1) + 20) := iv_add hflr ivk_20 (by decide) (by decide) (by decide) (by decide)
  have t77 : ((x0 1) + 20).toInt = (x0 1).toInt + 20 := iv_addc hflr (by decide) (by decide) (by decide)
  refine lv_sipush (v := 700) hx hb dX11_feed_12 (by decide) ?_
  refine lv_icmp_le (tgt := 20) hx hb dX11_feed_15 rfl (fun _ => ?_) (fun c9 => absurd (iv_le b76 ivk_700 (by decide)) c9)
  refine lv_iconst (v := 0) hx hb dX11_feed_20 ic_0 ?_
  refine lv_istore (lv' := [(6, .int 0), (0, .ref m0), (1, .int p0), (2, .int p1), (3, .int p2), (4, .int p3), (5, .int p4)]) hx hb dX11_feed_21 hl (Nat.le_of_ble_eq_true rfl) rfl (fun ls hl => ?_)
  exact hJ23 _ (upd x0 0 0) q_tape 0 _ _ _ (Nat.lt_succ_self _) ((fI_u hX (k := 0) ((iv_w ivk_0 (by decide) (by decide))))) (hq_tape) ((iv_w ivk_0 (by decide) (by decide))) (ivk_0) (b76) ((show (x0 1).toInt = (x0 1).toInt + ((0 : Int32)).toInt from by rw [show ((0 : Int32)).toInt = 0 from by decide]; omega)) ((show (x0 1).toInt + 20 ≤ 700 from by have q := hflr; have q2 := q.2; omega)) ((show q_tape = fdK q_tape (x0 1) p0 p1 p2 p3 p4 ((0 : Int32)).toNatClampNeg ∧ x0 1 = itT (x0 1) ((0 : Int32)).toNatClampNeg from fk_0)) ((show x0 10 = x0 10 from rfl)) ((show x0 11 = x0 11 from rfl)) ((show x0 14 = x0 14 from rfl)) (hP) (hD) hS (lv_sub hl [1, 2, 3, 4, 5, 6, 0] rfl)
