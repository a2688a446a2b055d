def rm_s11_note_alo : Room := { frames := 2, cells := 0, slots := 0, locals := 43 }
set_option maxHeartbeats 4000000 in
set_option maxRecDepth 100000 in
theorem s11_note_alo (l : Launch) (dC : Nat → ClassId) (dI : Nat → Nat → Nat) (kB kI kJ kZ kC kS : ClassId) (sz : Nat) (m0 : Nat) (ra : Nat → Nat) (x0 : Nat → Int32) (q_told : Nat → Int32) (q_status : Nat → Int32) (p0 : Int32) (p1 : Int32) (p2 : Int32) (p3 : Int32) (hX : fI lX11 hX11 x0) (hq_told : fI lTold hTold q_told) (hp0 : iv 0 31 p0) (hp1 : iv 0 2 p1) (hp2 : iv 1 10 p2) (hp3 : iv (-2147483648) (-1) p3) (hfs : iv 0 7 (x0 21)) (hg : p1 < q_told 2) : Met l yX11_note wsX11_note rm_s11_note_alo (va_Pc [.ref m0, .int p0, .int p1, .int p2, .int p3] (fun U => U.heap.size = sz ∧ va_P (dC, dI) vwCl [(m0, .inr (11, oX11 ra x0)), (ra 2, .inl (kI, 8, .inl q_told)), (ra 12, .inl (kI, 3, .inl q_status))] U.heap ∧ kE dC dI kB kI kJ kZ kC kS U ∧ va_D (fun _ => True) [(m0, .inr (11, oX11 ra x0)), (ra 2, .inl (kI, 8, .inl q_told)), (ra 12, .inl (kI, 3, .inl q_status))])) (va_Qi (fun (r : Int32) (_ : Unit) => iv (-1) (-1) r) (fun _ t => ∃ (x0' : Nat → Int32) (q_status' : Nat → Int32), fI lX11 hX11 x0' ∧ (x0' 21 = x0 21) ∧ (x0' 1 = x0 1) ∧ (x0' 10 = x0 10) ∧ (x0' 25 = x0 25) ∧ (x0' 23 = x0 23) ∧ va_P (dC, dI) vwCl [(m0, .inr (11, oX11 ra x0')), (ra 2, .inl (kI, 8, .inl q_told)), (ra 12, .inl (kI, 3, .inl q_status'))] t.heap ∧ va_D (va_A [(m0, .inr (11, oX11 ra x0)), (ra 2, .inl (kI, 8, .inl q_told)), (ra 12, .inl (kI, 3, .inl q_status))] sz) [(m0, .inr (11, oX11 ra x0')), (ra 2, .inl (kI, 8, .inl q_told)), (ra 12, .inl (kI, 3, .inl q_status'))]) (va_A [(m0, .inr (11, oX11 ra x0)), (ra 2, .inl (kI, 8, .inl q_told)), (ra 12, .inl (kI, 3, .inl q_status))] sz)) 0 0 (va_A [(m0, .inr (11, oX11 ra x0)), (ra 2, .inl (kI, 8, .inl q_told)), (ra 12, .inl (kI, 3, .inl q_status))] sz) := by
  refine Met.ofW (cc := cX11_note) (maxL := 5) (ret := (some .int)) (by decide) rfl ?_
  intro p e s m args0 below meth c s₁ B hml hv
  obtain ⟨hargs, hsz, hP, hE, hD0⟩ := hv
  have hx := B.exec
  have hb := B.bytes
  have hr := B.returns
  have hts := atoms_spec (ws := wsX11_note) B.pre
  have hown : s.vm.findClass RX11 = some m.cls := findClass_of_methodNamed B.named
  have hlocks := B.notSynchronized
  have hK := hE.1
  have hin11 : ∀ w ∈ wsX110, w ∈ wsX11_note := fun _ h9 => List.mem_cons_of_mem _ (List.mem_append_right _ h9)
  have hw_0 := hts (.fieldLink RX11 142 "PathProberModel" "code" "I") (List.mem_of_getElem? (i := 1) rfl)
  have hw_1 := hts (.fieldLink RX11 253 "PathProberModel" "noted" "I") (List.mem_of_getElem? (i := 2) rfl)
  subst hsz
  have hD := hD0.self (sz := s.heap.size)
  generalize hAe : va_A [(m0, .inr (11, oX11 ra x0)), (ra 2, .inl (kI, 8, .inl q_told)), (ra 12, .inl (kI, 3, .inl q_status))] s.heap.size = A at hD ⊢
  have hA : ∀ q : Nat, s.heap.size ≤ q → A q := fun q h => by rw [← hAe]; exact Or.inr h
  have hS : va_S A s.heap s.heap [] := va_S.rf
  have hP : va_P (dC, dI) vwCl [(m0, .inr (11, oX11 ra x0)), (ra 2, .inl (kI, 8, .inl q_told)), (ra 12, .inl (kI, 3, .inl q_status))] s.heap := hP
  have hl := lv_entry ([.ref m0, .int p0, .int p1, .int p2, .int p3]) (n := 5) (Nat.le_of_ble_eq_true rfl)
  have hla : entryFrame m args0 5 = entryFrame m ([.ref m0, .int p0, .int p1, .int p2, .int p3] : List Value).toArray 5 := by rw [hargs]
  rw [hla, lg_entry_eq]
  generalize (lg_sl ([.ref m0, .int p0, .int p1, .int p2, .int p3]) ++ List.replicate (5 - (lg_sl ([.ref m0, .int p0, .int p1, .int p2, .int p3])).length) Slot.unset).toArray = ls at hl ⊢
  have hl : lv_has ls 5 [(0, .ref m0), (1, .int p0), (2, .int p1), (3, .int p2), (4, .int p3)] := hl
  refine lv_aload_n hx hb dX11_note_0 rfl (lv_at hl 0 rfl) ?_
  refine lv_iconst (v := 0) hx hb dX11_note_1 ic_0 ?_
  refine va_put (D := (dC, dI)) (ci := 11) (v := .int 0) (ty := .int) (C := RX11) (T := TX11) (N := 61) hx hb hts hin11 tyX11 tyX11_ok nmX11 hown hK hP hD hS 0 rfl rfl 2 (by decide) hw_0 (fun _ h9 => h9) rfl (by decide +kernel) rfl rfl (Nat.le_of_ble_eq_true rfl) dX11_note_2 (fun H locs hPa hDa hS => ?_)
  clear hP hD
  have hP : va_P (dC, dI) vwCl [(m0, .inr (11, oX11 ra (upd x0 0 0))), (ra 2, .inl (kI, 8, .inl q_told)), (ra 12, .inl (kI, 3, .inl q_status))] H := hPa
  have hD : va_D A [(m0, .inr (11, oX11 ra (upd x0 0 0))), (ra 2, .inl (kI, 8, .inl q_told)), (ra 12, .inl (kI, 3, .inl q_status))] := hDa
  clear hPa hDa
  refine lv_aload_n hx hb dX11_note_5 rfl (lv_at hl 0 rfl) ?_
  refine va_get (D := (dC, dI)) (ci := 11) (v := .int (x0 21)) (C := RX11) (T := TX11) (N := 61) hx hb hts hin11 hown hK hP 0 rfl rfl 43 (Nat.le_of_ble_eq_true rfl) hw_1 (fun _ h9 => h9) rfl dX11_note_6 ?_
  refine lv_bipush (v := 8) hx hb dX11_note_9 bp_8 ?_
  refine lv_icmp_eq (tgt := 45) hx hb dX11_note_11 rfl (fun c9 => absurd c9 (iv_ne hfs ivk_8 (by decide))) (fun _ => ?_)
  refine lv_iload_n hx hb dX11_note_14 rfl (lv_at hl 1 rfl) ?_
  obtain ⟨hPc, hDc, hFc, hJn⟩ := cl_a (wc := []) (wr := [(m0, .inr (11, oX11 ra (upd x0 0 0))), (ra 2, .inl (kI, 8, .inl q_told)), (ra 12, .inl (kI, 3, .inl q_status))]) hP hD hS hA [] [0, 1, 2] rfl rfl (by decide +kernel)
  refine va_calli (va_runS (As := [.int p0]) (rest := []) ⟨hx, hb, hml, hown, hts⟩ (s11_isPort_in l dC dI kB kI kJ kZ kC kS H.size p0 (hp0)) (va_cwS 1 hts gX11_note_X11_isPort rfl rfl rfl (by decide +kernel) ⟨Nat.le_of_ble_eq_true rfl, Nat.le_of_ble_eq_true rfl⟩) ⟨fun a U g mk q => by obtain ⟨q0, q1, qP, qE, qD⟩ := q; exact ⟨q0, q1, qP, kE_call qE, qD⟩, fun U hU hW => ⟨rfl, by rw [hU], by rw [hU]; exact hPc, kE_warm hW hE, hDc.weaken (fun _ _ _ _ => trivial)⟩⟩ rfl rfl hl.1 rfl (lv_room (Nat.le_of_ble_eq_true rfl)) dX11_note_15 ⟨Nat.le_of_ble_eq_true rfl, Nat.le_of_ble_eq_true rfl⟩) hS (fun q _ h => hFc q h) hFc (fun r1 u t H locs ht hvm w2 hB hz1 hk1 hS => ?_)
  obtain ⟨hP1, hD1⟩ := hB
  try dsimp only at w2
  obtain ⟨hPa, hDa⟩ := hJn (w1 := []) hk1 ht hP1 hD1
  clear hP hD hPc hDc hFc hJn hP1 hD1 hk1
  have hP : va_P (dC, dI) vwCl [(m0, .inr (11, oX11 ra (upd x0 0 0))), (ra 2, .inl (kI, 8, .inl q_told)), (ra 12, .inl (kI, 3, .inl q_status))] H := hPa
  have hD : va_D A [(m0, .inr (11, oX11 ra (upd x0 0 0))), (ra 2, .inl (kI, 8, .inl q_told)), (ra 12, .inl (kI, 3, .inl q_status))] := hDa
  clear hPa hDa
  refine W.widen (k := 0) (n := 0) (Nat.le_of_ble_eq_true rfl) (Nat.le_of_ble_eq_true rfl) ?_
  obtain rfl : r1 = 1 := iv_one w2 (by decide)
  refine lv_if_eq (tgt := 45) hx hb dX11_note_18 rfl (fun c9 => absurd c9 (by decide)) (fun _ => ?_)
  refine lv_aload_n hx hb dX11_note_21 rfl (lv_at hl 0 rfl) ?_
  refine lv_iload_n hx hb dX11_note_22 rfl (lv_at hl 2 rfl) ?_
  obtain ⟨hPc, hDc, hFc, hJn⟩ := cl_a (wc := [(m0, .inr (11, oX11 ra (upd x0 0 0))), (ra 2, .inl (kI, 8, .inl q_told))]) (wr := [(ra 12, .inl (kI, 3, .inl q_status))]) hP hD hS hA [0, 1] [2] rfl rfl (by decide +kernel)
  refine va_calli (va_runV (As := [.int p1]) (rest := []) ⟨hx, hb, hml, hown, hts⟩ (s11_isGoal_in l dC dI kB kI kJ kZ kC kS H.size m0 ra (upd x0 0 0) q_told p1 ((fI_u hX (k := 0) ((iv_w ivk_0 (by decide) (by decide))))) (hq_told) (hp1) (hg)) (cwV 1 hts gX11_note_X11_isGoal rfl rfl rfl (by decide +kernel) ⟨Nat.le_of_ble_eq_true rfl, Nat.le_of_ble_eq_true rfl⟩) ⟨fun a U g mk q => by obtain ⟨q0, q1, qP, qE, qD⟩ := q; exact ⟨q0, q1, qP, kE_call qE, qD⟩, va_recv hK hP (ci := 11) (q0 := 0) rfl rfl, fun U hU hW => ⟨rfl, by rw [hU], by rw [hU]; exact hPc, kE_warm hW hE, hDc.weaken (fun _ _ _ _ => trivial)⟩⟩ rfl rfl hl.1 rfl (lv_room (Nat.le_of_ble_eq_true rfl)) dX11_note_23 ⟨Nat.le_of_ble_eq_true rfl, Nat.le_of_ble_eq_true rfl⟩) hS (fun q _ h => hFc q h) hFc (fun r3 u t H locs ht hvm w4 hB hz1 hk1 hS => ?_)
  obtain ⟨hP1, hD1⟩ := hB
  try dsimp only at w4
  obtain ⟨hPa, hDa⟩ := hJn (w1 := [(m0, .inr (11, oX11 ra (upd x0 0 0))), (ra 2, .inl (kI, 8, .inl q_told))]) hk1 ht hP1 hD1
  clear hP hD hPc hDc hFc hJn hP1 hD1 hk1
  have hP : va_P (dC, dI) vwCl [(ra 12, .inl (kI, 3, .inl q_status)), (m0, .inr (11, oX11 ra (upd x0 0 0))), (ra 2, .inl (kI, 8, .inl q_told))] H := hPa
  have hD : va_D A [(ra 12, .inl (kI, 3, .inl q_status)), (m0, .inr (11, oX11 ra (upd x0 0 0))), (ra 2, .inl (kI, 8, .inl q_told))] := hDa
  clear hPa hDa
  refine W.widen (k := 0) (n := 0) (Nat.le_of_ble_eq_true rfl) (Nat.le_of_ble_eq_true rfl) ?_
  obtain rfl : r3 = 1 := iv_one w4 (by decide)
  refine lv_if_eq (tgt := 45) hx hb dX11_note_26 rfl (fun c9 => absurd c9 (by decide)) (fun _ => ?_)
  refine lv_iload_n hx hb dX11_note_29 rfl (lv_at hl 3 rfl) ?_
  obtain ⟨hPc, hDc, hFc, hJn⟩ := cl_a (wc := []) (wr := [(ra 12, .inl (kI, 3, .inl q_status)), (m0, .inr (11, oX11 ra (upd x0 0 0))), (ra 2, .inl (kI, 8, .inl q_told))]) hP hD hS hA [] [0, 1, 2] rfl rfl (by decide +kernel)
  refine va_calli (va_runS (As := [.int p2]) (rest := []) ⟨hx, hb, hml, hown, hts⟩ (s11_isHop_in l dC dI kB kI kJ kZ kC kS H.size p2 (hp2)) (va_cwS 1 hts gX11_note_X11_isHop rfl rfl rfl (by decide +kernel) ⟨Nat.le_of_ble_eq_true rfl, Nat.le_of_ble_eq_true rfl⟩) ⟨fun a U g mk q => by obtain ⟨q0, q1, qP, qE, qD⟩ := q; exact ⟨q0, q1, qP, kE_call qE, qD⟩, fun U hU hW => ⟨rfl, by rw [hU], by rw [hU]; exact hPc, kE_warm hW hE, hDc.weaken (fun _ _ _ _ => trivial)⟩⟩ rfl rfl hl.1 rfl (lv_room (Nat.le_of_ble_eq_true rfl)) dX11_note_30 ⟨Nat.le_of_ble_eq_true rfl, Nat.le_of_ble_eq_true rfl⟩) hS (fun q _ h => hFc q h) hFc (fun r5 u t H locs ht hvm w6 hB hz1 hk1 hS => ?_)
  obtain ⟨hP1, hD1⟩ := hB
  try dsimp only at w6
  obtain ⟨hPa, hDa⟩ := hJn (w1 := []) hk1 ht hP1 hD1
  clear hP hD hPc hDc hFc hJn hP1 hD1 hk1
  have hP : va_P (dC, dI) vwCl [(ra 12, .inl (kI, 3, .inl q_status)), (m0, .inr (11, oX11 ra (upd x0 0 0))), (ra 2, .inl (kI, 8, .inl q_told))] H := hPa
  have hD : va_D A [(ra 12, .inl (kI, 3, .inl q_status)), (m0, .inr (11, oX11 ra (upd x0 0 0))), (ra 2, .inl (kI, 8, .inl q_told))] := hDa
  clear hPa hDa
  refine W.widen (k := 0) (n := 0) (Nat.le_of_ble_eq_true rfl) (Nat.le_of_ble_eq_true rfl) ?_
  obtain rfl : r5 = 1 := iv_one w6 (by decide)
  refine lv_if_eq (tgt := 45) hx hb dX11_note_33 rfl (fun c9 => absurd c9 (by decide)) (fun _ => ?_)
  refine lv_aload_n hx hb dX11_note_36 rfl (lv_at hl 0 rfl) ?_
  refine lv_iload hx hb dX11_note_37 (lv_at hl 4 rfl) ?_
  obtain ⟨hPc, hDc, hFc, hJn⟩ := cl_a (wc := [(m0, .inr (11, oX11 ra (upd x0 0 0))), (ra 2, .inl (kI, 8, .inl q_told))]) (wr := [(ra 12, .inl (kI, 3, .inl q_status))]) hP hD hS hA [1, 2] [0] rfl rfl (by decide +kernel)
  refine va_calli (va_runV (As := [.int p3]) (rest := []) ⟨hx, hb, hml, hown, hts⟩ (s11_isAddress_alo l dC dI kB kI kJ kZ kC kS H.size m0 ra (upd x0 0 0) q_told p3 ((fI_u hX (k := 0) ((iv_w ivk_0 (by decide) (by decide))))) (hq_told) (hp3)) (cwV 1 hts gX11_note_X11_isAddress rfl rfl rfl (by decide +kernel) ⟨Nat.le_of_ble_eq_true rfl, Nat.le_of_ble_eq_true rfl⟩) ⟨fun a U g mk q => by obtain ⟨q0, q1, qP, qE, qD⟩ := q; exact ⟨q0, q1, qP, kE_call qE, qD⟩, va_recv hK hP (ci := 11) (q0 := 1) rfl rfl, fun U hU hW => ⟨rfl, by rw [hU], by rw [hU]; exact hPc, kE_warm hW hE, hDc.weaken (fun _ _ _ _ => trivial)⟩⟩ rfl rfl hl.1 rfl (lv_room (Nat.le_of_ble_eq_true rfl)) dX11_note_39 ⟨Nat.le_of_ble_eq_true rfl, Nat.le_of_ble_eq_true rfl⟩) hS (fun q _ h => hFc q h) hFc (fun r7 u t H locs ht hvm w8 hB hz1 hk1 hS => ?_)
  obtain ⟨hP1, hD1⟩ := hB
  try dsimp only at w8
  obtain ⟨hPa, hDa⟩ := hJn (w1 := [(m0, .inr (11, oX11 ra (upd x0 0 0))), (ra 2, .inl (kI, 8, .inl q_told))]) hk1 ht hP1 hD1
  clear hP hD hPc hDc hFc hJn hP1 hD1 hk1
  have hP : va_P (dC, dI) vwCl [(ra 12, .inl (kI, 3, .inl q_status)), (m0, .inr (11, oX11 ra (upd x0 0 0))), (ra 2, .inl (kI, 8, .inl q_told))] H := hPa
  have hD : va_D A [(ra 12, .inl (kI, 3, .inl q_status)), (m0, .inr (11, oX11 ra (upd x0 0 0))), (ra 2, .inl (kI, 8, .inl q_told))] := hDa
  clear hPa hDa
  refine W.widen (k := 0) (n := 0) (Nat.le_of_ble_eq_true rfl) (Nat.le_of_ble_eq_true rfl) ?_
  obtain rfl : r7 = 0 := iv_one w8 (by decide)
  refine lv_if_ne (tgt := 51) hx hb dX11_note_42 rfl (fun c9 => absurd (by decide) c9) (fun _ => ?_)
  refine lv_aload_n hx hb dX11_note_45 rfl (lv_at hl 0 rfl) ?_
  refine lv_iconst (v := 2) hx hb dX11_note_46 ic_2 ?_
  obtain ⟨hPc, hDc, hFc, hJn⟩ := cl_a (wc := [(m0, .inr (11, oX11 ra (upd x0 0 0))), (ra 12, .inl (kI, 3, .inl q_status))]) (wr := [(ra 2, .inl (kI, 8, .inl q_told))]) hP hD hS hA [1, 0] [2] rfl rfl (by decide +kernel)
  refine va_calli (va_runV (As := [.int 2]) (rest := []) ⟨hx, hb, hml, hown, hts⟩ (s11_refuse l dC dI kB kI kJ kZ kC kS H.size m0 ra (upd x0 0 0) q_status 2 ((fI_u hX (k := 0) ((iv_w ivk_0 (by decide) (by decide))))) ((iv_w ivk_2 (by decide) (by decide)))) (cwV 1 hts gX11_note_X11_refuse rfl rfl rfl (by decide +kernel) ⟨Nat.le_of_ble_eq_true rfl, Nat.le_of_ble_eq_true rfl⟩) ⟨fun a U g mk q => by obtain ⟨q0, q1, qP, qE, qD⟩ := q; exact ⟨q0, q1, qP, kE_call qE, qD⟩, va_recv hK hP (ci := 11) (q0 := 1) rfl rfl, fun U hU hW => ⟨rfl, by rw [hU], by rw [hU]; exact hPc, kE_warm hW hE, hDc.weaken (fun _ _ _ _ => trivial)⟩⟩ rfl rfl hl.1 rfl (lv_room (Nat.le_of_ble_eq_true rfl)) dX11_note_47 ⟨Nat.le_of_ble_eq_true rfl, Nat.le_of_ble_eq_true rfl⟩) hS (fun q _ h => hFc q h) hFc (fun r9 u t H locs ht hvm w10 hB hz1 hk1 hS => ?_)
  obtain ⟨f11, hP1, hD1⟩ := hB
  try dsimp only at w10
  obtain ⟨hPa, hDa⟩ := hJn (w1 := [(m0, .inr (11, oX11 ra (upd x0 0 0))), (ra 12, .inl (kI, 3, .inl f11))]) hk1 ht hP1 hD1
  clear hP hD hPc hDc hFc hJn hP1 hD1 hk1
  have hP : va_P (dC, dI) vwCl [(ra 2, .inl (kI, 8, .inl q_told)), (m0, .inr (11, oX11 ra (upd x0 0 0))), (ra 12, .inl (kI, 3, .inl f11))] H := hPa
  have hD : va_D A [(ra 2, .inl (kI, 8, .inl q_told)), (m0, .inr (11, oX11 ra (upd x0 0 0))), (ra 12, .inl (kI, 3, .inl f11))] := hDa
  clear hPa hDa
  refine W.widen (k := 0) (n := 0) (Nat.le_of_ble_eq_true rfl) (Nat.le_of_ble_eq_true rfl) ?_
  obtain rfl : r9 = (-1) := iv_one w10 (by decide)
  have hPD9 := cl_s (wc := [(m0, .inr (11, oX11 ra (upd x0 0 0))), (ra 2, .inl (kI, 8, .inl q_told)), (ra 12, .inl (kI, 3, .inl f11))]) hP hD [1, 0, 2] rfl (by decide +kernel)
  have hP9 := hPD9.1
  have hD9 := hPD9.2
  exact W.iret (v := (-1)) hx hb hr (fun t ht hW => ⟨⟨(-1), (), rfl, ivk_m1, upd x0 0 0, f11, (fI_u hX (k := 0) ((iv_w ivk_0 (by decide) (by decide)))), (show x0 21 = x0 21 from rfl), (show x0 1 = x0 1 from rfl), (show x0 10 = x0 10 from rfl), (show x0 25 = x0 25 from rfl), (show x0 23 = x0 23 from rfl), by rw [ht]; exact hP9, hD9⟩, hS.F ht⟩) hS.2.2 dX11_note_50
def rm_s11_note_ahi : Room := { frames := 2, cells := 0, slots := 0, locals := 43 }
set_option maxHeartbeats 4000000 in
set_option maxRecDepth 100000 in
theorem s11_note_ahi (l : Launch) (dC : Nat → ClassId) (dI : Nat → Nat → Nat) (kB kI kJ kZ kC kS : ClassId) (sz : Nat) (m0 : Nat) (ra : Nat → Nat) (x0 : Nat → Int32) (q_told : Nat → Int32) (q_status : Nat → Int32) (p0 : Int32) (p1 : Int32) (p2 : Int32) (p3 : Int32) (hX : fI lX11 hX11 x0) (hq_told : fI lTold hTold q_told) (hp0 : iv 0 31 p0) (hp1 : iv 0 2 p1) (hp2 : iv 1 10 p2) (hfs : iv 0 7 (x0 21)) (hg : p1 < q_told 2) (hj : q_told 1 < p3) : Met l yX11_note wsX11_note rm_s11_note_ahi (va_Pc [.ref m0, .int p0, .int p1, .int p2, .int p3] (fun U => U.heap.size = sz ∧ va_P (dC, dI) vwCl [(m0, .inr (11, oX11 ra x0)), (ra 2, .inl (kI, 8, .inl q_told)), (ra 12, .inl (kI, 3, .inl q_status))] U.heap ∧ kE dC dI kB kI kJ kZ kC kS U ∧ va_D (fun _ => True) [(m0, .inr (11, oX11 ra x0)), (ra 2, .inl (kI, 8, .inl q_told)), (ra 12, .inl (kI, 3, .inl q_status))])) (va_Qi (fun (r : Int32) (_ : Unit) => iv (-1) (-1) r) (fun _ t => ∃ (x0' : Nat → Int32) (q_status' : Nat → Int32), fI lX11 hX11 x0' ∧ (x0' 21 = x0 21) ∧ (x0' 1 = x0 1) ∧ (x0' 10 = x0 10) ∧ (x0' 25 = x0 25) ∧ (x0' 23 = x0 23) ∧ va_P (dC, dI) vwCl [(m0, .inr (11, oX11 ra x0')), (ra 2, .inl (kI, 8, .inl q_told)), (ra 12, .inl (kI, 3, .inl q_status'))] t.heap ∧ va_D (va_A [(m0, .inr (11, oX11 ra x0)), (ra 2, .inl (kI, 8, .inl q_told)), (ra 12, .inl (kI, 3, .inl q_status))] sz) [(m0, .inr (11, oX11 ra x0')), (ra 2, .inl (kI, 8, .inl q_told)), (ra 12, .inl (kI, 3, .inl q_status'))]) (va_A [(m0, .inr (11, oX11 ra x0)), (ra 2, .inl (kI, 8, .inl q_told)), (ra 12, .inl (kI, 3, .inl q_status))] sz)) 0 0 (va_A [(m0, .inr (11, oX11 ra x0)), (ra 2, .inl (kI, 8, .inl q_told)), (ra 12, .inl (kI, 3, .inl q_status))] sz) := by
  refine Met.ofW (cc := cX11_note) (maxL := 5) (ret := (some .int)) (by decide) rfl ?_
  intro p e s m args0 below meth c s₁ B hml hv
  obtain ⟨hargs, hsz, hP, hE, hD0⟩ := hv
  have hx := B.exec
  have hb := B.bytes
  have hr := B.returns
  have hts := atoms_spec (ws := wsX11_note) B.pre
  have hown : s.vm.findClass RX11 = some m.cls := findClass_of_methodNamed B.named
  have hlocks := B.notSynchronized
  have hK := hE.1
  have hin11 : ∀ w ∈ wsX110, w ∈ wsX11_note := fun _ h9 => List.mem_cons_of_mem _ (List.mem_append_right _ h9)
  have hw_0 := hts (.fieldLink RX11 142 "PathProberModel" "code" "I") (List.mem_of_getElem? (i := 1) rfl)
  have hw_1 := hts (.fieldLink RX11 253 "PathProberModel" "noted" "I") (List.mem_of_getElem? (i := 2) rfl)
  subst hsz
  have hD := hD0.self (sz := s.heap.size)
  generalize hAe : va_A [(m0, .inr (11, oX11 ra x0)), (ra 2, .inl (kI, 8, .inl q_told)), (ra 12, .inl (kI, 3, .inl q_status))] s.heap.size = A at hD ⊢
  have hA : ∀ q : Nat, s.heap.size ≤ q → A q := fun q h => by rw [← hAe]; exact Or.inr h
  have hS : va_S A s.heap s.heap [] := va_S.rf
  have hP : va_P (dC, dI) vwCl [(m0, .inr (11, oX11 ra x0)), (ra 2, .inl (kI, 8, .inl q_told)), (ra 12, .inl (kI, 3, .inl q_status))] s.heap := hP
  have hl := lv_entry ([.ref m0, .int p0, .int p1, .int p2, .int p3]) (n := 5) (Nat.le_of_ble_eq_true rfl)
  have hla : entryFrame m args0 5 = entryFrame m ([.ref m0, .int p0, .int p1, .int p2, .int p3] : List Value).toArray 5 := by rw [hargs]
  rw [hla, lg_entry_eq]
  generalize (lg_sl ([.ref m0, .int p0, .int p1, .int p2, .int p3]) ++ List.replicate (5 - (lg_sl ([.ref m0, .int p0, .int p1, .int p2, .int p3])).length) Slot.unset).toArray = ls at hl ⊢
  have hl : lv_has ls 5 [(0, .ref m0), (1, .int p0), (2, .int p1), (3, .int p2), (4, .int p3)] := hl
  refine lv_aload_n hx hb dX11_note_0 rfl (lv_at hl 0 rfl) ?_
  refine lv_iconst (v := 0) hx hb dX11_note_1 ic_0 ?_
  refine va_put (D := (dC, dI)) (ci := 11) (v := .int 0) (ty := .int) (C := RX11) (T := TX11) (N := 61) hx hb hts hin11 tyX11 tyX11_ok nmX11 hown hK hP hD hS 0 rfl rfl 2 (by decide) hw_0 (fun _ h9 => h9) rfl (by decide +kernel) rfl rfl (Nat.le_of_ble_eq_true rfl) dX11_note_2 (fun H locs hPa hDa hS => ?_)
  clear hP hD
  have hP : va_P (dC, dI) vwCl [(m0, .inr (11, oX11 ra (upd x0 0 0))), (ra 2, .inl (kI, 8, .inl q_told)), (ra 12, .inl (kI, 3, .inl q_status))] H := hPa
  have hD : va_D A [(m0, .inr (11, oX11 ra (upd x0 0 0))), (ra 2, .inl (kI, 8, .inl q_told)), (ra 12, .inl (kI, 3, .inl q_status))] := hDa
  clear hPa hDa
  refine lv_aload_n hx hb dX11_note_5 rfl (lv_at hl 0 rfl) ?_
  refine va_get (D := (dC, dI)) (ci := 11) (v := .int (x0 21)) (C := RX11) (T := TX11) (N := 61) hx hb hts hin11 hown hK hP 0 rfl rfl 43 (Nat.le_of_ble_eq_true rfl) hw_1 (fun _ h9 => h9) rfl dX11_note_6 ?_
  refine lv_bipush (v := 8) hx hb dX11_note_9 bp_8 ?_
  refine lv_icmp_eq (tgt := 45) hx hb dX11_note_11 rfl (fun c9 => absurd c9 (iv_ne hfs ivk_8 (by decide))) (fun _ => ?_)
  refine lv_iload_n hx hb dX11_note_14 rfl (lv_at hl 1 rfl) ?_
  obtain ⟨hPc, hDc, hFc, hJn⟩ := cl_a (wc := []) (wr := [(m0, .inr (11, oX11 ra (upd x0 0 0))), (ra 2, .inl (kI, 8, .inl q_told)), (ra 12, .inl (kI, 3, .inl q_status))]) hP hD hS hA [] [0, 1, 2] rfl rfl (by decide +kernel)
  refine va_calli (va_runS (As := [.int p0]) (rest := []) ⟨hx, hb, hml, hown, hts⟩ (s11_isPort_in l dC dI kB kI kJ kZ kC kS H.size p0 (hp0)) (va_cwS 1 hts gX11_note_X11_isPort rfl rfl rfl (by decide +kernel) ⟨Nat.le_of_ble_eq_true rfl, Nat.le_of_ble_eq_true rfl⟩) ⟨fun a U g mk q => by obtain ⟨q0, q1, qP, qE, qD⟩ := q; exact ⟨q0, q1, qP, kE_call qE, qD⟩, fun U hU hW => ⟨rfl, by rw [hU], by rw [hU]; exact hPc, kE_warm hW hE, hDc.weaken (fun _ _ _ _ => trivial)⟩⟩ rfl rfl hl.1 rfl (lv_room (Nat.le_of_ble_eq_true rfl)) dX11_note_15 ⟨Nat.le_of_ble_eq_true rfl, Nat.le_of_ble_eq_true rfl⟩) hS (fun q _ h => hFc q h) hFc (fun r1 u t H locs ht hvm w2 hB hz1 hk1 hS => ?_)
  obtain ⟨hP1, hD1⟩ := hB
  try dsimp only at w2
  obtain ⟨hPa, hDa⟩ := hJn (w1 := []) hk1 ht hP1 hD1
  clear hP hD hPc hDc hFc hJn hP1 hD1 hk1
  have hP : va_P (dC, dI) vwCl [(m0, .inr (11, oX11 ra (upd x0 0 0))), (ra 2, .inl (kI, 8, .inl q_told)), (ra 12, .inl (kI, 3, .inl q_status))] H := hPa
  have hD : va_D A [(m0, .inr (11, oX11 ra (upd x0 0 0))), (ra 2, .inl (kI, 8, .inl q_told)), (ra 12, .inl (kI, 3, .inl q_status))] := hDa
  clear hPa hDa
  refine W.widen (k := 0) (n := 0) (Nat.le_of_ble_eq_true rfl) (Nat.le_of_ble_eq_true rfl) ?_
  obtain rfl : r1 = 1 := iv_one w2 (by decide)
  refine lv_if_eq (tgt := 45) hx hb dX11_note_18 rfl (fun c9 => absurd c9 (by decide)) (fun _ => ?_)
  refine lv_aload_n hx hb dX11_note_21 rfl (lv_at hl 0 rfl) ?_
  refine lv_iload_n hx hb dX11_note_22 rfl (lv_at hl 2 rfl) ?_
  obtain ⟨hPc, hDc, hFc, hJn⟩ := cl_a (wc := [(m0, .inr (11, oX11 ra (upd x0 0 0))), (ra 2, .inl (kI, 8, .inl q_told))]) (wr := [(ra 12, .inl (kI, 3, .inl q_status))]) hP hD hS hA [0, 1] [2] rfl rfl (by decide +kernel)
  refine va_calli (va_runV (As := [.int p1]) (rest := []) ⟨hx, hb, hml, hown, hts⟩ (s11_isGoal_in l dC dI kB kI kJ kZ kC kS H.size m0 ra (upd x0 0 0) q_told p1 ((fI_u hX (k := 0) ((iv_w ivk_0 (by decide) (by decide))))) (hq_told) (hp1) (hg)) (cwV 1 hts gX11_note_X11_isGoal rfl rfl rfl (by decide +kernel) ⟨Nat.le_of_ble_eq_true rfl, Nat.le_of_ble_eq_true rfl⟩) ⟨fun a U g mk q => by obtain ⟨q0, q1, qP, qE, qD⟩ := q; exact ⟨q0, q1, qP, kE_call qE, qD⟩, va_recv hK hP (ci := 11) (q0 := 0) rfl rfl, fun U hU hW => ⟨rfl, by rw [hU], by rw [hU]; exact hPc, kE_warm hW hE, hDc.weaken (fun _ _ _ _ => trivial)⟩⟩ rfl rfl hl.1 rfl (lv_room (Nat.le_of_ble_eq_true rfl)) dX11_note_23 ⟨Nat.le_of_ble_eq_true rfl, Nat.le_of_ble_eq_true rfl⟩) hS (fun q _ h => hFc q h) hFc (fun r3 u t H locs ht hvm w4 hB hz1 hk1 hS => ?_)
  obtain ⟨hP1, hD1⟩ := hB
  try dsimp only at w4
  obtain ⟨hPa, hDa⟩ := hJn (w1 := [(m0, .inr (11, oX11 ra (upd x0 0 0))), (ra 2, .inl (kI, 8, .inl q_told))]) hk1 ht hP1 hD1
  clear hP hD hPc hDc hFc hJn hP1 hD1 hk1
  have hP : va_P (dC, dI) vwCl [(ra 12, .inl (kI, 3, .inl q_status)), (m0, .inr (11, oX11 ra (upd x0 0 0))), (ra 2, .inl (kI, 8, .inl q_told))] H := hPa
  have hD : va_D A [(ra 12, .inl (kI, 3, .inl q_status)), (m0, .inr (11, oX11 ra (upd x0 0 0))), (ra 2, .inl (kI, 8, .inl q_told))] := hDa
  clear hPa hDa
  refine W.widen (k := 0) (n := 0) (Nat.le_of_ble_eq_true rfl) (Nat.le_of_ble_eq_true rfl) ?_
  obtain rfl : r3 = 1 := iv_one w4 (by decide)
  refine lv_if_eq (tgt := 45) hx hb dX11_note_26 rfl (fun c9 => absurd c9 (by decide)) (fun _ => ?_)
  refine lv_iload_n hx hb dX11_note_29 rfl (lv_at hl 3 rfl) ?_
  obtain ⟨hPc, hDc, hFc, hJn⟩ := cl_a (wc := []) (wr := [(ra 12, .inl (kI, 3, .inl q_status)), (m0, .inr (11, oX11 ra (upd x0 0 0))), (ra 2, .inl (kI, 8, .inl q_told))]) hP hD hS hA [] [0, 1, 2] rfl rfl (by decide +kernel)
  refine va_calli (va_runS (As := [.int p2]) (rest := []) ⟨hx, hb, hml, hown, hts⟩ (s11_isHop_in l dC dI kB kI kJ kZ kC kS H.size p2 (hp2)) (va_cwS 1 hts gX11_note_X11_isHop rfl rfl rfl (by decide +kernel) ⟨Nat.le_of_ble_eq_true rfl, Nat.le_of_ble_eq_true rfl⟩) ⟨fun a U g mk q => by obtain ⟨q0, q1, qP, qE, qD⟩ := q; exact ⟨q0, q1, qP, kE_call qE, qD⟩, fun U hU hW => ⟨rfl, by rw [hU], by rw [hU]; exact hPc, kE_warm hW hE, hDc.weaken (fun _ _ _ _ => trivial)⟩⟩ rfl rfl hl.1 rfl (lv_room (Nat.le_of_ble_eq_true rfl)) dX11_note_30 ⟨Nat.le_of_ble_eq_true rfl, Nat.le_of_ble_eq_true rfl⟩) hS (fun q _ h => hFc q h) hFc (fun r5 u t H locs ht hvm w6 hB hz1 hk1 hS => ?_)
  obtain ⟨hP1, hD1⟩ := hB
  try dsimp only at w6
  obtain ⟨hPa, hDa⟩ := hJn (w1 := []) hk1 ht hP1 hD1
  clear hP hD hPc hDc hFc hJn hP1 hD1 hk1
  have hP : va_P (dC, dI) vwCl [(ra 12, .inl (kI, 3, .inl q_status)), (m0, .inr (11, oX11 ra (upd x0 0 0))), (ra 2, .inl (kI, 8, .inl q_told))] H := hPa
  have hD : va_D A [(ra 12, .inl (kI, 3, .inl q_status)), (m0, .inr (11, oX11 ra (upd x0 0 0))), (ra 2, .inl (kI, 8, .inl q_told))] := hDa
  clear hPa hDa
  refine W.widen (k := 0) (n := 0) (Nat.le_of_ble_eq_true rfl) (Nat.le_of_ble_eq_true rfl) ?_
  obtain rfl : r5 = 1 := iv_one w6 (by decide)
  refine lv_if_eq (tgt := 45) hx hb dX11_note_33 rfl (fun c9 => absurd c9 (by decide)) (fun _ => ?_)
  refine lv_aload_n hx hb dX11_note_36 rfl (lv_at hl 0 rfl) ?_
  refine lv_iload hx hb dX11_note_37 (lv_at hl 4 rfl) ?_
  obtain ⟨hPc, hDc, hFc, hJn⟩ := cl_a (wc := [(m0, .inr (11, oX11 ra (upd x0 0 0))), (ra 2, .inl (kI, 8, .inl q_told))]) (wr := [(ra 12, .inl (kI, 3, .inl q_status))]) hP hD hS hA [1, 2] [0] rfl rfl (by decide +kernel)
  refine va_calli (va_runV (As := [.int p3]) (rest := []) ⟨hx, hb, hml, hown, hts⟩ (s11_isAddress_ahi l dC dI kB kI kJ kZ kC kS H.size m0 ra (upd x0 0 0) q_told p3 ((fI_u hX (k := 0) ((iv_w ivk_0 (by decide) (by decide))))) (hq_told) (hj)) (cwV 1 hts gX11_note_X11_isAddress rfl rfl rfl (by decide +kernel) ⟨Nat.le_of_ble_eq_true rfl, Nat.le_of_ble_eq_true rfl⟩) ⟨fun a U g mk q => by obtain ⟨q0, q1, qP, qE, qD⟩ := q; exact ⟨q0, q1, qP, kE_call qE, qD⟩, va_recv hK hP (ci := 11) (q0 := 1) rfl rfl, fun U hU hW => ⟨rfl, by rw [hU], by rw [hU]; exact hPc, kE_warm hW hE, hDc.weaken (fun _ _ _ _ => trivial)⟩⟩ rfl rfl hl.1 rfl (lv_room (Nat.le_of_ble_eq_true rfl)) dX11_note_39 ⟨Nat.le_of_ble_eq_true rfl, Nat.le_of_ble_eq_true rfl⟩) hS (fun q _ h => hFc q h) hFc (fun r7 u t H locs ht hvm w8 hB hz1 hk1 hS => ?_)
  obtain ⟨hP1, hD1⟩ := hB
  try dsimp only at w8
  obtain ⟨hPa, hDa⟩ := hJn (w1 := [(m0, .inr (11, oX11 ra (upd x0 0 0))), (ra 2, .inl (kI, 8, .inl q_told))]) hk1 ht hP1 hD1
  clear hP hD hPc hDc hFc hJn hP1 hD1 hk1
  have hP : va_P (dC, dI) vwCl [(ra 12, .inl (kI, 3, .inl q_status)), (m0, .inr (11, oX11 ra (upd x0 0 0))), (ra 2, .inl (kI, 8, .inl q_told))] H := hPa
  have hD : va_D A [(ra 12, .inl (kI, 3, .inl q_status)), (m0, .inr (11, oX11 ra (upd x0 0 0))), (ra 2, .inl (kI, 8, .inl q_told))] := hDa
  clear hPa hDa
  refine W.widen (k := 0) (n := 0) (Nat.le_of_ble_eq_true rfl) (Nat.le_of_ble_eq_true rfl) ?_
  obtain rfl : r7 = 0 := iv_one w8 (by decide)
  refine lv_if_ne (tgt := 51) hx hb dX11_note_42 rfl (fun c9 => absurd (by decide) c9) (fun _ => ?_)
  refine lv_aload_n hx hb dX11_note_45 rfl (lv_at hl 0 rfl) ?_
  refine lv_iconst (v := 2) hx hb dX11_note_46 ic_2 ?_
  obtain ⟨hPc, hDc, hFc, hJn⟩ := cl_a (wc := [(m0, .inr (11, oX11 ra (upd x0 0 0))), (ra 12, .inl (kI, 3, .inl q_status))]) (wr := [(ra 2, .inl (kI, 8, .inl q_told))]) hP hD hS hA [1, 0] [2] rfl rfl (by decide +kernel)
  refine va_calli (va_runV (As := [.int 2]) (rest := []) ⟨hx, hb, hml, hown, hts⟩ (s11_refuse l dC dI kB kI kJ kZ kC kS H.size m0 ra (upd x0 0 0) q_status 2 ((fI_u hX (k := 0) ((iv_w ivk_0 (by decide) (by decide))))) ((iv_w ivk_2 (by decide) (by decide)))) (cwV 1 hts gX11_note_X11_refuse rfl rfl rfl (by decide +kernel) ⟨Nat.le_of_ble_eq_true rfl, Nat.le_of_ble_eq_true rfl⟩) ⟨fun a U g mk q => by obtain ⟨q0, q1, qP, qE, qD⟩ := q; exact ⟨q0, q1, qP, kE_call qE, qD⟩, va_recv hK hP (ci := 11) (q0 := 1) rfl rfl, fun U hU hW => ⟨rfl, by rw [hU], by rw [hU]; exact hPc, kE_warm hW hE, hDc.weaken (fun _ _ _ _ => trivial)⟩⟩ rfl rfl hl.1 rfl (lv_room (Nat.le_of_ble_eq_true rfl)) dX11_note_47 ⟨Nat.le_of_ble_eq_true rfl, Nat.le_of_ble_eq_true rfl⟩) hS (fun q _ h => hFc q h) hFc (fun r9 u t H locs ht hvm w10 hB hz1 hk1 hS => ?_)
  obtain ⟨f11, hP1, hD1⟩ := hB
  try dsimp only at w10
  obtain ⟨hPa, hDa⟩ := hJn (w1 := [(m0, .inr (11, oX11 ra (upd x0 0 0))), (ra 12, .inl (kI, 3, .inl f11))]) hk1 ht hP1 hD1
  clear hP hD hPc hDc hFc hJn hP1 hD1 hk1
  have hP : va_P (dC, dI) vwCl [(ra 2, .inl (kI, 8, .inl q_told)), (m0, .inr (11, oX11 ra (upd x0 0 0))), (ra 12, .inl (kI, 3, .inl f11))] H := hPa
  have hD : va_D A [(ra 2, .inl (kI, 8, .inl q_told)), (m0, .inr (11, oX11 ra (upd x0 0 0))), (ra 12, .inl (kI, 3, .inl f11))] := hDa
  clear hPa hDa
  refine W.widen (k := 0) (n := 0) (Nat.le_of_ble_eq_true rfl) (Nat.le_of_ble_eq_true rfl) ?_
  obtain rfl : r9 = (-1) := iv_one w10 (by decide)
  have hPD9 := cl_s (wc := [(m0, .inr (11, oX11 ra (upd x0 0 0))), (ra 2, .inl (kI, 8, .inl q_told)), (ra 12, .inl (kI, 3, .inl f11))]) hP hD [1, 0, 2] rfl (by decide +kernel)
  have hP9 := hPD9.1
  have hD9 := hPD9.2
  exact W.iret (v := (-1)) hx hb hr (fun t ht hW => ⟨⟨(-1), (), rfl, ivk_m1, upd x0 0 0, f11, (fI_u hX (k := 0) ((iv_w ivk_0 (by decide) (by decide)))), (show x0 21 = x0 21 from rfl), (show x0 1 = x0 1 from rfl), (show x0 10 = x0 10 from rfl), (show x0 25 = x0 25 from rfl), (show x0 23 = x0 23 from rfl), by rw [ht]; exact hP9, hD9⟩, hS.F ht⟩) hS.2.2 dX11_note_50
def rm_s11_note_ok : Room := { frames := 2, cells := 0, slots := 0, locals := 43 }
set_option maxHeartbeats 4000000 in
set_option maxRecDepth 100000 in
theorem s11_note_ok (l : Launch) (dC : Nat → ClassId) (dI : Nat → Nat → Nat) (kB kI kJ kZ kC kS : ClassId) (sz : Nat) (m0 : Nat) (ra : Nat → Nat) (x0 : Nat → Int32) (q_told : Nat → Int32) (q_notedPort : Nat → Int32) (q_notedGoal : Nat → Int32) (q_notedHop : Nat → Int32) (q_notedAddress : Nat → Int32) (p0 : Int32) (p1 : Int32) (p2 : Int32) (p3 : Int32) (hX : fI lX11 hX11 x0) (hq_told : fI lTold hTold q_told) (hq_notedPort : fI (fun _ => 0) (fun _ => 31) q_notedPort) (hq_notedGoal : fI (fun _ => 0) (fun _ => 2) q_notedGoal) (hp0 : iv 0 31 p0) (hp1 : iv 0 2 p1) (hp2 : iv 1 10 p2) (hp3 : iv 0 20 p3) (hfs : iv 0 7 (x0 21)) (hg : p1 < q_told 2) (h0 : 0 < q_told 0) (hj : p3 ≤ q_told 1) : Met l yX11_note wsX11_note rm_s11_note_ok (va_Pc [.ref m0, .int p0, .int p1, .int p2, .int p3] (fun U => U.heap.size = sz ∧ va_P (dC, dI) vwCl [(m0, .inr (11, oX11 ra x0)), (ra 2, .inl (kI, 8, .inl q_told)), (ra 22, .inl (kI, 8, .inl q_notedPort)), (ra 23, .inl (kI, 8, .inl q_notedGoal)), (ra 24, .inl (kI, 8, .inl q_notedHop)), (ra 25, .inl (kI, 8, .inl q_notedAddress))] U.heap ∧ kE dC dI kB kI kJ kZ kC kS U ∧ va_D (fun _ => True) [(m0, .inr (11, oX11 ra x0)), (ra 2, .inl (kI, 8, .inl q_told)), (ra 22, .inl (kI, 8, .inl q_notedPort)), (ra 23, .inl (kI, 8, .inl q_notedGoal)), (ra 24, .inl (kI, 8, .inl q_notedHop)), (ra 25, .inl (kI, 8, .inl q_notedAddress))])) (va_Qi (fun (r : Int32) (_ : Unit) => iv 1 8 r ∧ (r = x0 21 + 1)) (fun _ t => ∃ (x0' : Nat → Int32) (q_notedPort' : Nat → Int32) (q_notedGoal' : Nat → Int32) (q_notedHop' : Nat → Int32) (q_notedAddress' : Nat → Int32), fI lX11 hX11 x0' ∧ fI (fun _ => 0) (fun _ => 31) q_notedPort' ∧ fI (fun _ => 0) (fun _ => 2) q_notedGoal' ∧ (x0' 21 = x0 21 + 1) ∧ (x0' 1 = x0 1) ∧ (x0' 10 = x0 10) ∧ (x0' 25 = x0 25) ∧ (x0' 23 = x0 23) ∧ va_P (dC, dI) vwCl [(m0, .inr (11, oX11 ra x0')), (ra 2, .inl (kI, 8, .inl q_told)), (ra 22, .inl (kI, 8, .inl q_notedPort')), (ra 23, .inl (kI, 8, .inl q_notedGoal')), (ra 24, .inl (kI, 8, .inl q_notedHop')), (ra 25, .inl (kI, 8, .inl q_notedAddress'))] t.heap ∧ va_D (va_A [(m0, .inr (11, oX11 ra x0)), (ra 2, .inl (kI, 8, .inl q_told)), (ra 22, .inl (kI, 8, .inl q_notedPort)), (ra 23, .inl (kI, 8, .inl q_notedGoal)), (ra 24, .inl (kI, 8, .inl q_notedHop)), (ra 25, .inl (kI, 8, .inl q_notedAddress))] sz) [(m0, .inr (11, oX11 ra x0')), (ra 2, .inl (kI, 8, .inl q_told)), (ra 22, .inl (kI, 8, .inl q_notedPort')), (ra 23, .inl (kI, 8, .inl q_notedGoal')), (ra 24, .inl (kI, 8, .inl q_notedHop')), (ra 25, .inl (kI, 8, .inl q_notedAddress'))]) (va_A [(m0, .inr (11, oX11 ra x0)), (ra 2, .inl (kI, 8, .inl q_told)), (ra 22, .inl (kI, 8, .inl q_notedPort)), (ra 23, .inl (kI, 8, .inl q_notedGoal)), (ra 24, .inl (kI, 8, .inl q_notedHop)), (ra 25, .inl (kI, 8, .inl q_notedAddress))] sz)) 0 0 (va_A [(m0, .inr (11, oX11 ra x0)), (ra 2, .inl (kI, 8, .inl q_told)), (ra 22, .inl (kI, 8, .inl q_notedPort)), (ra 23, .inl (kI, 8, .inl q_notedGoal)), (ra 24, .inl (kI, 8, .inl q_notedHop)), (ra 25, .inl (kI, 8, .inl q_notedAddress))] sz) := by
  refine Met.ofW (cc := cX11_note) (maxL := 5) (ret := (some .int)) (by decide) rfl ?_
  intro p e s m args0 below meth c s₁ B hml hv
  obtain ⟨hargs, hsz, hP, hE, hD0⟩ := hv
  have hx := B.exec
  have hb := B.bytes
  have hr := B.returns
  have hts := atoms_spec (ws := wsX11_note) B.pre
  have hown : s.vm.findClass RX11 = some m.cls := findClass_of_methodNamed B.named
  have hlocks := B.notSynchronized
  have hK := hE.1
  have hin11 : ∀ w ∈ wsX110, w ∈ wsX11_note := fun _ h9 => List.mem_cons_of_mem _ (List.mem_append_right _ h9)
  have hw_0 := hts (.fieldLink RX11 142 "PathProberModel" "code" "I") (List.mem_of_getElem? (i := 1) rfl)
  have hw_1 := hts (.fieldLink RX11 253 "PathProberModel" "noted" "I") (List.mem_of_getElem? (i := 2) rfl)
  have hw_2 := hts (.fieldLink RX11 103 "PathProberModel" "notedPort" "[I") (List.mem_of_getElem? (i := 3) rfl)
  have hw_3 := hts (.fieldLink RX11 106 "PathProberModel" "notedGoal" "[I") (List.mem_of_getElem? (i := 4) rfl)
  have hw_4 := hts (.fieldLink RX11 109 "PathProberModel" "notedHop" "[I") (List.mem_of_getElem? (i := 5) rfl)
  have hw_5 := hts (.fieldLink RX11 112 "PathProberModel" "notedAddress" "[I") (List.mem_of_getElem? (i := 6) rfl)
  subst hsz
  have hD := hD0.self (sz := s.heap.size)
  generalize hAe : va_A [(m0, .inr (11, oX11 ra x0)), (ra 2, .inl (kI, 8, .inl q_told)), (ra 22, .inl (kI, 8, .inl q_notedPort)), (ra 23, .inl (kI, 8, .inl q_notedGoal)), (ra 24, .inl (kI, 8, .inl q_notedHop)), (ra 25, .inl (kI, 8, .inl q_notedAddress))] s.heap.size = A at hD ⊢
  have hA : ∀ q : Nat, s.heap.size ≤ q → A q := fun q h => by rw [← hAe]; exact Or.inr h
  have hS : va_S A s.heap s.heap [] := va_S.rf
  have hP : va_P (dC, dI) vwCl [(m0, .inr (11, oX11 ra x0)), (ra 2, .inl (kI, 8, .inl q_told)), (ra 22, .inl (kI, 8, .inl q_notedPort)), (ra 23, .inl (kI, 8, .inl q_notedGoal)), (ra 24, .inl (kI, 8, .inl q_notedHop)), (ra 25, .inl (kI, 8, .inl q_notedAddress))] s.heap := hP
  have hl := lv_entry ([.ref m0, .int p0, .int p1, .int p2, .int p3]) (n := 5) (Nat.le_of_ble_eq_true rfl)
  have hla : entryFrame m args0 5 = entryFrame m ([.ref m0, .int p0, .int p1, .int p2, .int p3] : List Value).toArray 5 := by rw [hargs]
  rw [hla, lg_entry_eq]
  generalize (lg_sl ([.ref m0, .int p0, .int p1, .int p2, .int p3]) ++ List.replicate (5 - (lg_sl ([.ref m0, .int p0, .int p1, .int p2, .int p3])).length) Slot.unset).toArray = ls at hl ⊢
  have hl : lv_has ls 5 [(0, .ref m0), (1, .int p0), (2, .int p1), (3, .int p2), (4, .int p3)] := hl
  refine lv_aload_n hx hb dX11_note_0 rfl (lv_at hl 0 rfl) ?_
  refine lv_iconst (v := 0) hx hb dX11_note_1 ic_0 ?_
  refine va_put (D := (dC, dI)) (ci := 11) (v := .int 0) (ty := .int) (C := RX11) (T := TX11) (N := 61) hx hb hts hin11 tyX11 tyX11_ok nmX11 hown hK hP hD hS 0 rfl rfl 2 (by decide) hw_0 (fun _ h9 => h9) rfl (by decide +kernel) rfl rfl (Nat.le_of_ble_eq_true rfl) dX11_note_2 (fun H locs hPa hDa hS => ?_)
  clear hP hD
  have hP : va_P (dC, dI) vwCl [(m0, .inr (11, oX11 ra (upd x0 0 0))), (ra 2, .inl (kI, 8, .inl q_told)), (ra 22, .inl (kI, 8, .inl q_notedPort)), (ra 23, .inl (kI, 8, .inl q_notedGoal)), (ra 24, .inl (kI, 8, .inl q_notedHop)), (ra 25, .inl (kI, 8, .inl q_notedAddress))] H := hPa
  have hD : va_D A [(m0, .inr (11, oX11 ra (upd x0 0 0))), (ra 2, .inl (kI, 8, .inl q_told)), (ra 22, .inl (kI, 8, .inl q_notedPort)), (ra 23, .inl (kI, 8, .inl q_notedGoal)), (ra 24, .inl (kI, 8, .inl q_notedHop)), (ra 25, .inl (kI, 8, .inl q_notedAddress))] := hDa
  clear hPa hDa
  refine lv_aload_n hx hb dX11_note_5 rfl (lv_at hl 0 rfl) ?_
  refine va_get (D := (dC, dI)) (ci := 11) (v := .int (x0 21)) (C := RX11) (T := TX11) (N := 61) hx hb hts hin11 hown hK hP 0 rfl rfl 43 (Nat.le_of_ble_eq_true rfl) hw_1 (fun _ h9 => h9) rfl dX11_note_6 ?_
  refine lv_bipush (v := 8) hx hb dX11_note_9 bp_8 ?_
  refine lv_icmp_eq (tgt := 45) hx hb dX11_note_11 rfl (fun c9 => absurd c9 (iv_ne hfs ivk_8 (by decide))) (fun _ => ?_)
  refine lv_iload_n hx hb dX11_note_14 rfl (lv_at hl 1 rfl) ?_
  obtain ⟨hPc, hDc, hFc, hJn⟩ := cl_a (wc := []) (wr := [(m0, .inr (11, oX11 ra (upd x0 0 0))), (ra 2, .inl (kI, 8, .inl q_told)), (ra 22, .inl (kI, 8, .inl q_notedPort)), (ra 23, .inl (kI, 8, .inl q_notedGoal)), (ra 24, .inl (kI, 8, .inl q_notedHop)), (ra 25, .inl (kI, 8, .inl q_notedAddress))]) hP hD hS hA [] [0, 1, 2, 3, 4, 5] rfl rfl (by decide +kernel)
  refine va_calli (va_runS (As := [.int p0]) (rest := []) ⟨hx, hb, hml, hown, hts⟩ (s11_isPort_in l dC dI kB kI kJ kZ kC kS H.size p0 (hp0)) (va_cwS 1 hts gX11_note_X11_isPort rfl rfl rfl (by decide +kernel) ⟨Nat.le_of_ble_eq_true rfl, Nat.le_of_ble_eq_true rfl⟩) ⟨fun a U g mk q => by obtain ⟨q0, q1, qP, qE, qD⟩ := q; exact ⟨q0, q1, qP, kE_call qE, qD⟩, fun U hU hW => ⟨rfl, by rw [hU], by rw [hU]; exact hPc, kE_warm hW hE, hDc.weaken (fun _ _ _ _ => trivial)⟩⟩ rfl rfl hl.1 rfl (lv_room (Nat.le_of_ble_eq_true rfl)) dX11_note_15 ⟨Nat.le_of_ble_eq_true rfl, Nat.le_of_ble_eq_true rfl⟩) hS (fun q _ h => hFc q h) hFc (fun r1 u t H locs ht hvm w2 hB hz1 hk1 hS => ?_)
  obtain ⟨hP1, hD1⟩ := hB
  try dsimp only at w2
  obtain ⟨hPa, hDa⟩ := hJn (w1 := []) hk1 ht hP1 hD1
  clear hP hD hPc hDc hFc hJn hP1 hD1 hk1
  have hP : va_P (dC, dI) vwCl [(m0, .inr (11, oX11 ra (upd x0 0 0))), (ra 2, .inl (kI, 8, .inl q_told)), (ra 22, .inl (kI, 8, .inl q_notedPort)), (ra 23, .inl (kI, 8, .inl q_notedGoal)), (ra 24, .inl (kI, 8, .inl q_notedHop)), (ra 25, .inl (kI, 8, .inl q_notedAddress))] H := hPa
  have hD : va_D A [(m0, .inr (11, oX11 ra (upd x0 0 0))), (ra 2, .inl (kI, 8, .inl q_told)), (ra 22, .inl (kI, 8, .inl q_notedPort)), (ra 23, .inl (kI, 8, .inl q_notedGoal)), (ra 24, .inl (kI, 8, .inl q_notedHop)), (ra 25, .inl (kI, 8, .inl q_notedAddress))] := hDa
  clear hPa hDa
  refine W.widen (k := 0) (n := 0) (Nat.le_of_ble_eq_true rfl) (Nat.le_of_ble_eq_true rfl) ?_
  obtain rfl : r1 = 1 := iv_one w2 (by decide)
  refine lv_if_eq (tgt := 45) hx hb dX11_note_18 rfl (fun c9 => absurd c9 (by decide)) (fun _ => ?_)
  refine lv_aload_n hx hb dX11_note_21 rfl (lv_at hl 0 rfl) ?_
  refine lv_iload_n hx hb dX11_note_22 rfl (lv_at hl 2 rfl) ?_
  obtain ⟨hPc, hDc, hFc, hJn⟩ := cl_a (wc := [(m0, .inr (11, oX11 ra (upd x0 0 0))), (ra 2, .inl (kI, 8, .inl q_told))]) (wr := [(ra 22, .inl (kI, 8, .inl q_notedPort)), (ra 23, .inl (kI, 8, .inl q_notedGoal)), (ra 24, .inl (kI, 8, .inl q_notedHop)), (ra 25, .inl (kI, 8, .inl q_notedAddress))]) hP hD hS hA [0, 1] [2, 3, 4, 5] rfl rfl (by decide +kernel)
  refine va_calli (va_runV (As := [.int p1]) (rest := []) ⟨hx, hb, hml, hown, hts⟩ (s11_isGoal_in l dC dI kB kI kJ kZ kC kS H.size m0 ra (upd x0 0 0) q_told p1 ((fI_u hX (k := 0) ((iv_w ivk_0 (by decide) (by decide))))) (hq_told) (hp1) (hg)) (cwV 1 hts gX11_note_X11_isGoal rfl rfl rfl (by decide +kernel) ⟨Nat.le_of_ble_eq_true rfl, Nat.le_of_ble_eq_true rfl⟩) ⟨fun a U g mk q => by obtain ⟨q0, q1, qP, qE, qD⟩ := q; exact ⟨q0, q1, qP, kE_call qE, qD⟩, va_recv hK hP (ci := 11) (q0 := 0) rfl rfl, fun U hU hW => ⟨rfl, by rw [hU], by rw [hU]; exact hPc, kE_warm hW hE, hDc.weaken (fun _ _ _ _ => trivial)⟩⟩ rfl rfl hl.1 rfl (lv_room (Nat.le_of_ble_eq_true rfl)) dX11_note_23 ⟨Nat.le_of_ble_eq_true rfl, Nat.le_of_ble_eq_true rfl⟩) hS (fun q _ h => hFc q h) hFc (fun r3 u t H locs ht hvm w4 hB hz1 hk1 hS => ?_)
  obtain ⟨hP1, hD1⟩ := hB
  try dsimp only at w4
  obtain ⟨hPa, hDa⟩ := hJn (w1 := [(m0, .inr (11, oX11 ra (upd x0 0 0))), (ra 2, .inl (kI, 8, .inl q_told))]) hk1 ht hP1 hD1
  clear hP hD hPc hDc hFc hJn hP1 hD1 hk1
  have hP : va_P (dC, dI) vwCl [(ra 22, .inl (kI, 8, .inl q_notedPort)), (ra 23, .inl (kI, 8, .inl q_notedGoal)), (ra 24, .inl (kI, 8, .inl q_notedHop)), (ra 25, .inl (kI, 8, .inl q_notedAddress)), (m0, .inr (11, oX11 ra (upd x0 0 0))), (ra 2, .inl (kI, 8, .inl q_told))] H := hPa
  have hD : va_D A [(ra 22, .inl (kI, 8, .inl q_notedPort)), (ra 23, .inl (kI, 8, .inl q_notedGoal)), (ra 24, .inl (kI, 8, .inl q_notedHop)), (ra 25, .inl (kI, 8, .inl q_notedAddress)), (m0, .inr (11, oX11 ra (upd x0 0 0))), (ra 2, .inl (kI, 8, .inl q_told))] := hDa
  clear hPa hDa
  refine W.widen (k := 0) (n := 0) (Nat.le_of_ble_eq_true rfl) (Nat.le_of_ble_eq_true rfl) ?_
  obtain rfl : r3 = 1 := iv_one w4 (by decide)
  refine lv_if_eq (tgt := 45) hx hb dX11_note_26 rfl (fun c9 => absurd c9 (by decide)) (fun _ => ?_)
  refine lv_iload_n hx hb dX11_note_29 rfl (lv_at hl 3 rfl) ?_
  obtain ⟨hPc, hDc, hFc, hJn⟩ := cl_a (wc := []) (wr := [(ra 22, .inl (kI, 8, .inl q_notedPort)), (ra 23, .inl (kI, 8, .inl q_notedGoal)), (ra 24, .inl (kI, 8, .inl q_notedHop)), (ra 25, .inl (kI, 8, .inl q_notedAddress)), (m0, .inr (11, oX11 ra (upd x0 0 0))), (ra 2, .inl (kI, 8, .inl q_told))]) hP hD hS hA [] [0, 1, 2, 3, 4, 5] rfl rfl (by decide +kernel)
  refine va_calli (va_runS (As := [.int p2]) (rest := []) ⟨hx, hb, hml, hown, hts⟩ (s11_isHop_in l dC dI kB kI kJ kZ kC kS H.size p2 (hp2)) (va_cwS 1 hts gX11_note_X11_isHop rfl rfl rfl (by decide +kernel) ⟨Nat.le_of_ble_eq_true rfl, Nat.le_of_ble_eq_true rfl⟩) ⟨fun a U g mk q => by obtain ⟨q0, q1, qP, qE, qD⟩ := q; exact ⟨q0, q1, qP, kE_call qE, qD⟩, fun U hU hW => ⟨rfl, by rw [hU], by rw [hU]; exact hPc, kE_warm hW hE, hDc.weaken (fun _ _ _ _ => trivial)⟩⟩ rfl rfl hl.1 rfl (lv_room (Nat.le_of_ble_eq_true rfl)) dX11_note_30 ⟨Nat.le_of_ble_eq_true rfl, Nat.le_of_ble_eq_true rfl⟩) hS (fun q _ h => hFc q h) hFc (fun r5 u t H locs ht hvm w6 hB hz1 hk1 hS => ?_)
  obtain ⟨hP1, hD1⟩ := hB
  try dsimp only at w6
  obtain ⟨hPa, hDa⟩ := hJn (w1 := []) hk1 ht hP1 hD1
  clear hP hD hPc hDc hFc hJn hP1 hD1 hk1
  have hP : va_P (dC, dI) vwCl [(ra 22, .inl (kI, 8, .inl q_notedPort)), (ra 23, .inl (kI, 8, .inl q_notedGoal)), (ra 24, .inl (kI, 8, .inl q_notedHop)), (ra 25, .inl (kI, 8, .inl q_notedAddress)), (m0, .inr (11, oX11 ra (upd x0 0 0))), (ra 2, .inl (kI, 8, .inl q_told))] H := hPa
  have hD : va_D A [(ra 22, .inl (kI, 8, .inl q_notedPort)), (ra 23, .inl (kI, 8, .inl q_notedGoal)), (ra 24, .inl (kI, 8, .inl q_notedHop)), (ra 25, .inl (kI, 8, .inl q_notedAddress)), (m0, .inr (11, oX11 ra (upd x0 0 0))), (ra 2, .inl (kI, 8, .inl q_told))] := hDa
  clear hPa hDa
  refine W.widen (k := 0) (n := 0) (Nat.le_of_ble_eq_true rfl) (Nat.le_of_ble_eq_true rfl) ?_
  obtain rfl : r5 = 1 := iv_one w6 (by decide)
  refine lv_if_eq (tgt := 45) hx hb dX11_note_33 rfl (fun c9 => absurd c9 (by decide)) (fun _ => ?_)
  refine lv_aload_n hx hb dX11_note_36 rfl (lv_at hl 0 rfl) ?_
  refine lv_iload hx hb dX11_note_37 (lv_at hl 4 rfl) ?_
  obtain ⟨hPc, hDc, hFc, hJn⟩ := cl_a (wc := [(m0, .inr (11, oX11 ra (upd x0 0 0))), (ra 2, .inl (kI, 8, .inl q_told))]) (wr := [(ra 22, .inl (kI, 8, .inl q_notedPort)), (ra 23, .inl (kI, 8, .inl q_notedGoal)), (ra 24, .inl (kI, 8, .inl q_notedHop)), (ra 25, .inl (kI, 8, .inl q_notedAddress))]) hP hD hS hA [4, 5] [0, 1, 2, 3] rfl rfl (by decide +kernel)
  refine va_calli (va_runV (As := [.int p3]) (rest := []) ⟨hx, hb, hml, hown, hts⟩ (s11_isAddress_in l dC dI kB kI kJ kZ kC kS H.size m0 ra (upd x0 0 0) q_told p3 ((fI_u hX (k := 0) ((iv_w ivk_0 (by decide) (by decide))))) (hq_told) (hp3) (h0) (hj)) (cwV 1 hts gX11_note_X11_isAddress rfl rfl rfl (by decide +kernel) ⟨Nat.le_of_ble_eq_true rfl, Nat.le_of_ble_eq_true rfl⟩) ⟨fun a U g mk q => by obtain ⟨q0, q1, qP, qE, qD⟩ := q; exact ⟨q0, q1, qP, kE_call qE, qD⟩, va_recv hK hP (ci := 11) (q0 := 4) rfl rfl, fun U hU hW => ⟨rfl, by rw [hU], by rw [hU]; exact hPc, kE_warm hW hE, hDc.weaken (fun _ _ _ _ => trivial)⟩⟩ rfl rfl hl.1 rfl (lv_room (Nat.le_of_ble_eq_true rfl)) dX11_note_39 ⟨Nat.le_of_ble_eq_true rfl, Nat.le_of_ble_eq_true rfl⟩) hS (fun q _ h => hFc q h) hFc (fun r7 u t H locs ht hvm w8 hB hz1 hk1 hS => ?_)
  obtain ⟨hP1, hD1⟩ := hB
  try dsimp only at w8
  obtain ⟨hPa, hDa⟩ := hJn (w1 := [(m0, .inr (11, oX11 ra (upd x0 0 0))), (ra 2, .inl (kI, 8, .inl q_told))]) hk1 ht hP1 hD1
  clear hP hD hPc hDc hFc hJn hP1 hD1 hk1
  have hP : va_P (dC, dI) vwCl [(ra 22, .inl (kI, 8, .inl q_notedPort)), (ra 23, .inl (kI, 8, .inl q_notedGoal)), (ra 24, .inl (kI, 8, .inl q_notedHop)), (ra 25, .inl (kI, 8, .inl q_notedAddress)), (m0, .inr (11, oX11 ra (upd x0 0 0))), (ra 2, .inl (kI, 8, .inl q_told))] H := hPa
  have hD : va_D A [(ra 22, .inl (kI, 8, .inl q_notedPort)), (ra 23, .inl (kI, 8, .inl q_notedGoal)), (ra 24, .inl (kI, 8, .inl q_notedHop)), (ra 25, .inl (kI, 8, .inl q_notedAddress)), (m0, .inr (11, oX11 ra (upd x0 0 0))), (ra 2, .inl (kI, 8, .inl q_told))] := hDa
  clear hPa hDa
  refine W.widen (k := 0) (n := 0) (Nat.le_of_ble_eq_true rfl) (Nat.le_of_ble_eq_true rfl) ?_
  obtain rfl : r7 = 1 := iv_one w8 (by decide)
  refine lv_if_ne (tgt := 51) hx hb dX11_note_42 rfl (fun _ => ?_) (fun c9 => absurd c9 (by decide))
  refine lv_aload_n hx hb dX11_note_51 rfl (lv_at hl 0 rfl) ?_
  refine va_get (D := (dC, dI)) (ci := 11) (v := .ref (ra 22)) (C := RX11) (T := TX11) (N := 61) hx hb hts hin11 hown hK hP 4 rfl rfl 44 (Nat.le_of_ble_eq_true rfl) hw_2 (fun _ h9 => h9) rfl dX11_note_52 ?_
  refine lv_aload_n hx hb dX11_note_55 rfl (lv_at hl 0 rfl) ?_
  refine va_get (D := (dC, dI)) (ci := 11) (v := .int (x0 21)) (C := RX11) (T := TX11) (N := 61) hx hb hts hin11 hown hK hP 4 rfl rfl 43 (Nat.le_of_ble_eq_true rfl) hw_1 (fun _ h9 => h9) rfl dX11_note_56 ?_
  refine lv_iload_n hx hb dX11_note_59 rfl (lv_at hl 1 rfl) ?_
  refine va_iast hx hb hK hP hD hS 0 1 rfl rfl (iv_in hfs (by decide) (by decide)) dX11_note_60 (fun H locs hPa hDa hS => ?_)
  clear hP hD
  have hP : va_P (dC, dI) vwCl [(ra 22, .inl (kI, 8, .inl (upd q_notedPort (x0 21).toNatClampNeg p0))), (ra 23, .inl (kI, 8, .inl q_notedGoal)), (ra 24, .inl (kI, 8, .inl q_notedHop)), (ra 25, .inl (kI, 8, .inl q_notedAddress)), (m0, .inr (11, oX11 ra (upd x0 0 0))), (ra 2, .inl (kI, 8, .inl q_told))] H := hPa
  have hD : va_D A [(ra 22, .inl (kI, 8, .inl (upd q_notedPort (x0 21).toNatClampNeg p0))), (ra 23, .inl (kI, 8, .inl q_notedGoal)), (ra 24, .inl (kI, 8, .inl q_notedHop)), (ra 25, .inl (kI, 8, .inl q_notedAddress)), (m0, .inr (11, oX11 ra (upd x0 0 0))), (ra 2, .inl (kI, 8, .inl q_told))] := hDa
  clear hPa hDa
  have hf10 : fI (fun _ => 0) (fun _ => 31) (upd q_notedPort (x0 21).toNatClampNeg p0) := fI_u hq_notedPort (k := (x0 21).toNatClampNeg) (hp0)
  generalize (upd q_notedPort (x0 21).toNatClampNeg p0) = f9 at hP hD hf10
  refine lv_aload_n hx hb dX11_note_61 rfl (lv_at hl 0 rfl) ?_
  refine va_get (D := (dC, dI)) (ci := 11) (v := .ref (ra 23)) (C := RX11) (T := TX11) (N := 61) hx hb hts hin11 hown hK hP 4 rfl rfl 45 (Nat.le_of_ble_eq_true rfl) hw_3 (fun _ h9 => h9) rfl dX11_note_62 ?_
  refine lv_aload_n hx hb dX11_note_65 rfl (lv_at hl 0 rfl) ?_
  refine va_get (D := (dC, dI)) (ci := 11) (v := .int (x0 21)) (C := RX11) (T := TX11) (N := 61) hx hb hts hin11 hown hK hP 4 rfl rfl 43 (Nat.le_of_ble_eq_true rfl) hw_1 (fun _ h9 => h9) rfl dX11_note_66 ?_
  refine lv_iload_n hx hb dX11_note_69 rfl (lv_at hl 2 rfl) ?_
  refine va_iast hx hb hK hP hD hS 1 1 rfl rfl (iv_in hfs (by decide) (by decide)) dX11_note_70 (fun H locs hPa hDa hS => ?_)
  clear hP hD
  have hP : va_P (dC, dI) vwCl [(ra 22, .inl (kI, 8, .inl f9)), (ra 23, .inl (kI, 8, .inl (upd q_notedGoal (x0 21).toNatClampNeg p1))), (ra 24, .inl (kI, 8, .inl q_notedHop)), (ra 25, .inl (kI, 8, .inl q_notedAddress)), (m0, .inr (11, oX11 ra (upd x0 0 0))), (ra 2, .inl (kI, 8, .inl q_told))] H := hPa
  have hD : va_D A [(ra 22, .inl (kI, 8, .inl f9)), (ra 23, .inl (kI, 8, .inl (upd q_notedGoal (x0 21).toNatClampNeg p1))), (ra 24, .inl (kI, 8, .inl q_notedHop)), (ra 25, .inl (kI, 8, .inl q_notedAddress)), (m0, .inr (11, oX11 ra (upd x0 0 0))), (ra 2, .inl (kI, 8, .inl q_told))] := hDa
  clear hPa hDa
  have hf12 : fI (fun _ => 0) (fun _ => 2) (upd q_notedGoal (x0 21).toNatClampNeg p1) := fI_u hq_notedGoal (k := (x0 21).toNatClampNeg) (hp1)
  generalize (upd q_notedGoal (x0 21).toNatClampNeg p1) = f11 at hP hD hf12
  refine lv_aload_n hx hb dX11_note_71 rfl (lv_at hl 0 rfl) ?_
  refine va_get (D := (dC, dI)) (ci := 11) (v := .ref (ra 24)) (C := RX11) (T := TX11) (N := 61) hx hb hts hin11 hown hK hP 4 rfl rfl 46 (Nat.le_of_ble_eq_true rfl) hw_4 (fun _ h9 => h9) rfl dX11_note_72 ?_
  refine lv_aload_n hx hb dX11_note_75 rfl (lv_at hl 0 rfl) ?_
  refine va_get (D := (dC, dI)) (ci := 11) (v := .int (x0 21)) (C := RX11) (T := TX11) (N := 61) hx hb hts hin11 hown hK hP 4 rfl rfl 43 (Nat.le_of_ble_eq_true rfl) hw_1 (fun _ h9 => h9) rfl dX11_note_76 ?_
  refine lv_iload_n hx hb dX11_note_79 rfl (lv_at hl 3 rfl) ?_
  refine va_iast hx hb hK hP hD hS 2 1 rfl rfl (iv_in hfs (by decide) (by decide)) dX11_note_80 (fun H locs hPa hDa hS => ?_)
  clear hP hD
  have hP : va_P (dC, dI) vwCl [(ra 22, .inl (kI, 8, .inl f9)), (ra 23, .inl (kI, 8, .inl f11)), (ra 24, .inl (kI, 8, .inl (upd q_notedHop (x0 21).toNatClampNeg p2))), (ra 25, .inl (kI, 8, .inl q_notedAddress)), (m0, .inr (11, oX11 ra (upd x0 0 0))), (ra 2, .inl (kI, 8, .inl q_told))] H := hPa
  have hD : va_D A [(ra 22, .inl (kI, 8, .inl f9)), (ra 23, .inl (kI, 8, .inl f11)), (ra 24, .inl (kI, 8, .inl (upd q_notedHop (x0 21).toNatClampNeg p2))), (ra 25, .inl (kI, 8, .inl q_notedAddress)), (m0, .inr (11, oX11 ra (upd x0 0 0))), (ra 2, .inl (kI, 8, .inl q_told))] := hDa
  clear hPa hDa
  generalize (upd q_notedHop (x0 21).toNatClampNeg p2) = f13 at hP hD
  refine lv_aload_n hx hb dX11_note_81 rfl (lv_at hl 0 rfl) ?_
  refine va_get (D := (dC, dI)) (ci := 11) (v := .ref (ra 25)) (C := RX11) (T := TX11) (N := 61) hx hb hts hin11 hown hK hP 4 rfl rfl 47 (Nat.le_of_ble_eq_true rfl) hw_5 (fun _ h9 => h9) rfl dX11_note_82 ?_
  refine lv_aload_n hx hb dX11_note_85 rfl (lv_at hl 0 rfl) ?_
  refine va_get (D := (dC, dI)) (ci := 11) (v := .int (x0 21)) (C := RX11) (T := TX11) (N := 61) hx hb hts hin11 hown hK hP 4 rfl rfl 43 (Nat.le_of_ble_eq_true rfl) hw_1 (fun _ h9 => h9) rfl dX11_note_86 ?_
  refine lv_iload hx hb dX11_note_89 (lv_at hl 4 rfl) ?_
  refine va_iast hx hb hK hP hD hS 3 1 rfl rfl (iv_in hfs (by decide) (by decide)) dX11_note_91 (fun H locs hPa hDa hS => ?_)
  clear hP hD
  have hP : va_P (dC, dI) vwCl [(ra 22, .inl (kI, 8, .inl f9)), (ra 23, .inl (kI, 8, .inl f11)), (ra 24, .inl (kI, 8, .inl f13)), (ra 25, .inl (kI, 8, .inl (upd q_notedAddress (x0 21).toNatClampNeg p3))), (m0, .inr (11, oX11 ra (upd x0 0 0))), (ra 2, .inl (kI, 8, .inl q_told))] H := hPa
  have hD : va_D A [(ra 22, .inl (kI, 8, .inl f9)), (ra 23, .inl (kI, 8, .inl f11)), (ra 24, .inl (kI, 8, .inl f13)), (ra 25, .inl (kI, 8, .inl (upd q_notedAddress (x0 21).toNatClampNeg p3))), (m0, .inr (11, oX11 ra (upd x0 0 0))), (ra 2, .inl (kI, 8, .inl q_told))] := hDa
  clear hPa hDa
  generalize (upd q_notedAddress (x0 21).toNatClampNeg p3) = f14 at hP hD
  refine lv_aload_n hx hb dX11_note_92 rfl (lv_at hl 0 rfl) ?_
  refine lv_dup hx hb dX11_note_93 rfl ?_
  refine va_get (D := (dC, dI)) (ci := 11) (v := .int (x0 21)) (C := RX11) (T := TX11) (N := 61) hx hb hts hin11 hown hK hP 4 rfl rfl 43 (Nat.le_of_ble_eq_true rfl) hw_1 (fun _ h9 => h9) rfl dX11_note_94 ?_
  refine lv_iconst (v := 1) hx hb dX11_note_97 ic_1 ?_
  refine lv_iadd hx hb dX11_note_98 ?_
  have b15 : iv 1 8 ((x0 21) + 1) := iv_add hfs ivk_1 (by decide) (by decide) (by decide) (by decide)
  refine va_put (D := (dC, dI)) (ci := 11) (v := .int ((x0 21) + 1)) (ty := .int) (C := RX11) (T := TX11) (N := 61) hx hb hts hin11 tyX11 tyX11_ok nmX11 hown hK hP hD hS 4 rfl rfl 43 (by decide) hw_1 (fun _ h9 => h9) rfl (by decide +kernel) rfl rfl (Nat.le_of_ble_eq_true rfl) dX11_note_99 (fun H locs hPa hDa hS => ?_)
  clear hP hD
  have hP : va_P (dC, dI) vwCl [(ra 22, .inl (kI, 8, .inl f9)), (ra 23, .inl (kI, 8, .inl f11)), (ra 24, .inl (kI, 8, .inl f13)), (ra 25, .inl (kI, 8, .inl f14)), (m0, .inr (11, oX11 ra (upd (upd x0 0 0) 21 ((x0 21) + 1)))), (ra 2, .inl (kI, 8, .inl q_told))] H := hPa
  have hD : va_D A [(ra 22, .inl (kI, 8, .inl f9)), (ra 23, .inl (kI, 8, .inl f11)), (ra 24, .inl (kI, 8, .inl f13)), (ra 25, .inl (kI, 8, .inl f14)), (m0, .inr (11, oX11 ra (upd (upd x0 0 0) 21 ((x0 21) + 1)))), (ra 2, .inl (kI, 8, .inl q_told))] := hDa
  clear hPa hDa
  refine lv_aload_n hx hb dX11_note_102 rfl (lv_at hl 0 rfl) ?_
  refine va_get (D := (dC, dI)) (ci := 11) (v := .int ((x0 21) + 1)) (C := RX11) (T := TX11) (N := 61) hx hb hts hin11 hown hK hP 4 rfl rfl 43 (Nat.le_of_ble_eq_true rfl) hw_1 (fun _ h9 => h9) rfl dX11_note_103 ?_
  have hPD9 := cl_s (wc := [(m0, .inr (11, oX11 ra (upd (upd x0 0 0) 21 ((x0 21) + 1)))), (ra 2, .inl (kI, 8, .inl q_told)), (ra 22, .inl (kI, 8, .inl f9)), (ra 23, .inl (kI, 8, .inl f11)), (ra 24, .inl (kI, 8, .inl f13)), (ra 25, .inl (kI, 8, .inl f14))]) hP hD [4, 5, 0, 1, 2, 3] rfl (by decide +kernel)
  have hP9 := hPD9.1
  have hD9 := hPD9.2
  exact W.iret (v := (x0 21) + 1) hx hb hr (fun t ht hW => ⟨⟨(x0 21) + 1, (), rfl, ⟨b15, rfl⟩, upd (upd x0 0 0) 21 ((x0 21) + 1), f9, f11, f13, f14, (fI_u (fI_u hX (k := 0) ((iv_w ivk_0 (by decide) (by decide)))) (k := 21) ((iv_w b15 (by decide) (by decide)))), hf10, hf12, (show (x0 21) + 1 = x0 21 + 1 from rfl), (show x0 1 = x0 1 from rfl), (show x0 10 = x0 10 from rfl), (show x0 25 = x0 25 from rfl), (show x0 23 = x0 23 from rfl), by rw [ht]; exact hP9, hD9⟩, hS.F ht⟩) hS.2.2 dX11_note_106
