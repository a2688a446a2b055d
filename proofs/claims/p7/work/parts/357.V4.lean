def rm_s11_link_whi : Room := { frames := 1, cells := 0, slots := 0, locals := 22 }
set_option maxHeartbeats 4000000 in
set_option maxRecDepth 100000 in
theorem s11_link_whi (l : Launch) (dC : Nat → ClassId) (dI : Nat → Nat → Nat) (kB kI kJ kZ kC kS : ClassId) (sz : Nat) (m0 : Nat) (ra : Nat → Nat) (x0 : Nat → Int32) (q_told : Nat → Int32) (p0 : Int32) (p1 : Int32) (hX : fI lX11 hX11 x0) (hq_told : fI lTold hTold q_told) (hp0 : iv 0 19 p0) (hp1 : iv 2 2147483647 p1) (hc : p0 < q_told 1) : Met l yX11_link wsX11_link rm_s11_link_whi (va_Pc [.ref m0, .int p0, .int p1] (fun U => U.heap.size = sz ∧ va_P (dC, dI) vwCl [(m0, .inr (11, oX11 ra x0)), (ra 2, .inl (kI, 8, .inl q_told))] U.heap ∧ kE dC dI kB kI kJ kZ kC kS U ∧ va_D (fun _ => True) [(m0, .inr (11, oX11 ra x0)), (ra 2, .inl (kI, 8, .inl q_told))])) (va_Qi (fun (r : Int32) (_ : Unit) => iv 0 0 r) (fun _ t => ∃ (x0' : Nat → Int32), fI lX11 hX11 x0' ∧ (x0' 0 = 1) ∧ (x0' 1 = x0 1) ∧ (x0' 10 = x0 10) ∧ va_P (dC, dI) vwCl [(m0, .inr (11, oX11 ra x0')), (ra 2, .inl (kI, 8, .inl q_told))] t.heap ∧ va_D (va_A [(m0, .inr (11, oX11 ra x0)), (ra 2, .inl (kI, 8, .inl q_told))] sz) [(m0, .inr (11, oX11 ra x0')), (ra 2, .inl (kI, 8, .inl q_told))]) (va_A [(m0, .inr (11, oX11 ra x0)), (ra 2, .inl (kI, 8, .inl q_told))] sz)) 0 0 (va_A [(m0, .inr (11, oX11 ra x0)), (ra 2, .inl (kI, 8, .inl q_told))] sz) := by
  refine Met.ofW (cc := cX11_link) (maxL := 3) (ret := (some .int)) (by decide) rfl ?_
  intro p e s m args0 below meth c s₁ B hml hv
  obtain ⟨hargs, hsz, hP, hE, hD0⟩ := hv
  have hx := B.exec
  have hb := B.bytes
  have hr := B.returns
  have hts := atoms_spec (ws := wsX11_link) B.pre
  have hown : s.vm.findClass RX11 = some m.cls := findClass_of_methodNamed B.named
  have hlocks := B.notSynchronized
  have hK := hE.1
  have hin11 : ∀ w ∈ wsX110, w ∈ wsX11_link := fun _ h9 => List.mem_cons_of_mem _ (List.mem_append_right _ h9)
  have hw_0 := hts (.fieldLink RX11 142 "PathProberModel" "code" "I") (List.mem_of_getElem? (i := 1) rfl)
  subst hsz
  have hD := hD0.self (sz := s.heap.size)
  generalize hAe : va_A [(m0, .inr (11, oX11 ra x0)), (ra 2, .inl (kI, 8, .inl q_told))] s.heap.size = A at hD ⊢
  have hA : ∀ q : Nat, s.heap.size ≤ q → A q := fun q h => by rw [← hAe]; exact Or.inr h
  have hS : va_S A s.heap s.heap [] := va_S.rf
  have hP : va_P (dC, dI) vwCl [(m0, .inr (11, oX11 ra x0)), (ra 2, .inl (kI, 8, .inl q_told))] s.heap := hP
  have hl := lv_entry ([.ref m0, .int p0, .int p1]) (n := 3) (Nat.le_of_ble_eq_true rfl)
  have hla : entryFrame m args0 3 = entryFrame m ([.ref m0, .int p0, .int p1] : List Value).toArray 3 := by rw [hargs]
  rw [hla, lg_entry_eq]
  generalize (lg_sl ([.ref m0, .int p0, .int p1]) ++ List.replicate (3 - (lg_sl ([.ref m0, .int p0, .int p1])).length) Slot.unset).toArray = ls at hl ⊢
  have hl : lv_has ls 3 [(0, .ref m0), (1, .int p0), (2, .int p1)] := hl
  refine lv_aload_n hx hb dX11_link_0 rfl (lv_at hl 0 rfl) ?_
  refine lv_iconst (v := 0) hx hb dX11_link_1 ic_0 ?_
  refine va_put (D := (dC, dI)) (ci := 11) (v := .int 0) (ty := .int) (C := RX11) (T := TX11) (N := 61) hx hb hts hin11 tyX11 tyX11_ok nmX11 hown hK hP hD hS 0 rfl rfl 2 (by decide) hw_0 (fun _ h9 => h9) rfl (by decide +kernel) rfl rfl (Nat.le_of_ble_eq_true rfl) dX11_link_2 (fun H locs hPa hDa hS => ?_)
  clear hP hD
  have hP : va_P (dC, dI) vwCl [(m0, .inr (11, oX11 ra (upd x0 0 0))), (ra 2, .inl (kI, 8, .inl q_told))] H := hPa
  have hD : va_D A [(m0, .inr (11, oX11 ra (upd x0 0 0))), (ra 2, .inl (kI, 8, .inl q_told))] := hDa
  clear hPa hDa
  refine lv_iload_n hx hb dX11_link_5 rfl (lv_at hl 1 rfl) ?_
  refine lv_iconst (v := 0) hx hb dX11_link_6 ic_0 ?_
  refine lv_aload_n hx hb dX11_link_7 rfl (lv_at hl 0 rfl) ?_
  obtain ⟨hPc, hDc, hFc, hJn⟩ := cl_a (wc := [(m0, .inr (11, oX11 ra (upd x0 0 0))), (ra 2, .inl (kI, 8, .inl q_told))]) (wr := []) hP hD hS hA [0, 1] [] rfl rfl (by decide +kernel)
  refine va_calli (va_runV (As := []) (rest := [.int 0, .int p0]) ⟨hx, hb, hml, hown, hts⟩ (s11_links l dC dI kB kI kJ kZ kC kS H.size m0 ra (upd x0 0 0) q_told ((fI_u hX (k := 0) ((iv_w ivk_0 (by decide) (by decide))))) (hq_told)) (cwV 0 hts gX11_link_X11_links rfl rfl rfl (by decide +kernel) ⟨Nat.le_of_ble_eq_true rfl, Nat.le_of_ble_eq_true rfl⟩) ⟨fun a U g mk q => by obtain ⟨q0, q1, qP, qE, qD⟩ := q; exact ⟨q0, q1, qP, kE_call qE, qD⟩, va_recv hK hP (ci := 11) (q0 := 0) rfl rfl, fun U hU hW => ⟨rfl, by rw [hU], by rw [hU]; exact hPc, kE_warm hW hE, hDc.weaken (fun _ _ _ _ => trivial)⟩⟩ rfl rfl hl.1 rfl (lv_room (Nat.le_of_ble_eq_true rfl)) dX11_link_8 ⟨Nat.le_of_ble_eq_true rfl, Nat.le_of_ble_eq_true rfl⟩) hS (fun q _ h => hFc q h) hFc (fun r1 u t H locs ht hvm w2 hB hz1 hk1 hS => ?_)
  obtain ⟨hP1, hD1⟩ := hB
  try dsimp only at w2
  obtain ⟨hPa, hDa⟩ := hJn (w1 := [(m0, .inr (11, oX11 ra (upd x0 0 0))), (ra 2, .inl (kI, 8, .inl q_told))]) hk1 ht hP1 hD1
  clear hP hD hPc hDc hFc hJn hP1 hD1 hk1
  have hP : va_P (dC, dI) vwCl [(m0, .inr (11, oX11 ra (upd x0 0 0))), (ra 2, .inl (kI, 8, .inl q_told))] H := hPa
  have hD : va_D A [(m0, .inr (11, oX11 ra (upd x0 0 0))), (ra 2, .inl (kI, 8, .inl q_told))] := hDa
  clear hPa hDa
  refine W.widen (k := 0) (n := 0) (Nat.le_of_ble_eq_true rfl) (Nat.le_of_ble_eq_true rfl) ?_
  subst w2
  refine lv_iconst (v := 1) hx hb dX11_link_11 ic_1 ?_
  refine lv_isub hx hb dX11_link_12 ?_
  have b3 : iv (-1) 19 ((q_told 1) - 1) := iv_sub (hq_told 1 : iv 0 20 (q_told 1)) ivk_1 (by decide) (by decide) (by decide) (by decide)
  obtain ⟨hPc, hDc, hFc, hJn⟩ := cl_a (wc := []) (wr := [(m0, .inr (11, oX11 ra (upd x0 0 0))), (ra 2, .inl (kI, 8, .inl q_told))]) hP hD hS hA [] [0, 1] rfl rfl (by decide +kernel)
  refine va_calli (va_runS (As := [.int p0, .int 0, .int ((q_told 1) - 1)]) (rest := []) ⟨hx, hb, hml, hown, hts⟩ (s11_isIn_in l dC dI kB kI kJ kZ kC kS H.size p0 ((q_told 1) - 1) (hp0) ((sub1_le hc (hq_told 1)))) (va_cwS 3 hts gX11_link_X11_isIn rfl rfl rfl (by decide +kernel) ⟨Nat.le_of_ble_eq_true rfl, Nat.le_of_ble_eq_true rfl⟩) ⟨fun a U g mk q => by obtain ⟨q0, q1, qP, qE, qD⟩ := q; exact ⟨q0, q1, qP, kE_call qE, qD⟩, fun U hU hW => ⟨rfl, by rw [hU], by rw [hU]; exact hPc, kE_warm hW hE, hDc.weaken (fun _ _ _ _ => trivial)⟩⟩ rfl rfl hl.1 rfl (lv_room (Nat.le_of_ble_eq_true rfl)) dX11_link_13 ⟨Nat.le_of_ble_eq_true rfl, Nat.le_of_ble_eq_true rfl⟩) hS (fun q _ h => hFc q h) hFc (fun r4 u t H locs ht hvm w5 hB hz1 hk1 hS => ?_)
  obtain ⟨hP1, hD1⟩ := hB
  try dsimp only at w5
  obtain ⟨hPa, hDa⟩ := hJn (w1 := []) hk1 ht hP1 hD1
  clear hP hD hPc hDc hFc hJn hP1 hD1 hk1
  have hP : va_P (dC, dI) vwCl [(m0, .inr (11, oX11 ra (upd x0 0 0))), (ra 2, .inl (kI, 8, .inl q_told))] H := hPa
  have hD : va_D A [(m0, .inr (11, oX11 ra (upd x0 0 0))), (ra 2, .inl (kI, 8, .inl q_told))] := hDa
  clear hPa hDa
  refine W.widen (k := 0) (n := 0) (Nat.le_of_ble_eq_true rfl) (Nat.le_of_ble_eq_true rfl) ?_
  obtain rfl : r4 = 1 := iv_one w5 (by decide)
  refine lv_if_eq (tgt := 50) hx hb dX11_link_16 rfl (fun c9 => absurd c9 (by decide)) (fun _ => ?_)
  refine lv_iload_n hx hb dX11_link_19 rfl (lv_at hl 2 rfl) ?_
  refine lv_iconst (v := 0) hx hb dX11_link_20 ic_0 ?_
  refine lv_iconst (v := 1) hx hb dX11_link_21 ic_1 ?_
  obtain ⟨hPc, hDc, hFc, hJn⟩ := cl_a (wc := []) (wr := [(m0, .inr (11, oX11 ra (upd x0 0 0))), (ra 2, .inl (kI, 8, .inl q_told))]) hP hD hS hA [] [0, 1] rfl rfl (by decide +kernel)
  refine va_calli (va_runS (As := [.int p1, .int 0, .int 1]) (rest := []) ⟨hx, hb, hml, hown, hts⟩ (s11_isIn_whi l dC dI kB kI kJ kZ kC kS H.size p1 (hp1)) (va_cwS 3 hts gX11_link_X11_isIn rfl rfl rfl (by decide +kernel) ⟨Nat.le_of_ble_eq_true rfl, Nat.le_of_ble_eq_true rfl⟩) ⟨fun a U g mk q => by obtain ⟨q0, q1, qP, qE, qD⟩ := q; exact ⟨q0, q1, qP, kE_call qE, qD⟩, fun U hU hW => ⟨rfl, by rw [hU], by rw [hU]; exact hPc, kE_warm hW hE, hDc.weaken (fun _ _ _ _ => trivial)⟩⟩ rfl rfl hl.1 rfl (lv_room (Nat.le_of_ble_eq_true rfl)) dX11_link_22 ⟨Nat.le_of_ble_eq_true rfl, Nat.le_of_ble_eq_true rfl⟩) hS (fun q _ h => hFc q h) hFc (fun r6 u t H locs ht hvm w7 hB hz1 hk1 hS => ?_)
  obtain ⟨hP1, hD1⟩ := hB
  try dsimp only at w7
  obtain ⟨hPa, hDa⟩ := hJn (w1 := []) hk1 ht hP1 hD1
  clear hP hD hPc hDc hFc hJn hP1 hD1 hk1
  have hP : va_P (dC, dI) vwCl [(m0, .inr (11, oX11 ra (upd x0 0 0))), (ra 2, .inl (kI, 8, .inl q_told))] H := hPa
  have hD : va_D A [(m0, .inr (11, oX11 ra (upd x0 0 0))), (ra 2, .inl (kI, 8, .inl q_told))] := hDa
  clear hPa hDa
  refine W.widen (k := 0) (n := 0) (Nat.le_of_ble_eq_true rfl) (Nat.le_of_ble_eq_true rfl) ?_
  obtain rfl : r6 = 0 := iv_one w7 (by decide)
  refine lv_if_eq (tgt := 50) hx hb dX11_link_25 rfl (fun _ => ?_) (fun c9 => absurd (by decide) c9)
  refine lv_aload_n hx hb dX11_link_50 rfl (lv_at hl 0 rfl) ?_
  refine lv_iconst (v := 1) hx hb dX11_link_51 ic_1 ?_
  obtain ⟨hPc, hDc, hFc, hJn⟩ := cl_a (wc := [(m0, .inr (11, oX11 ra (upd x0 0 0)))]) (wr := [(ra 2, .inl (kI, 8, .inl q_told))]) hP hD hS hA [0] [1] rfl rfl (by decide +kernel)
  refine va_calli (va_runV (As := [.int 1]) (rest := []) ⟨hx, hb, hml, hown, hts⟩ (s11_fail l dC dI kB kI kJ kZ kC kS H.size m0 ra (upd x0 0 0) 1 ((fI_u hX (k := 0) ((iv_w ivk_0 (by decide) (by decide)))))) (cwV 1 hts gX11_link_X11_fail rfl rfl rfl (by decide +kernel) ⟨Nat.le_of_ble_eq_true rfl, Nat.le_of_ble_eq_true rfl⟩) ⟨fun a U g mk q => by obtain ⟨q0, q1, qP, qE, qD⟩ := q; exact ⟨q0, q1, qP, kE_call qE, qD⟩, va_recv hK hP (ci := 11) (q0 := 0) rfl rfl, fun U hU hW => ⟨rfl, by rw [hU], by rw [hU]; exact hPc, kE_warm hW hE, hDc.weaken (fun _ _ _ _ => trivial)⟩⟩ rfl rfl hl.1 rfl (lv_room (Nat.le_of_ble_eq_true rfl)) dX11_link_52 ⟨Nat.le_of_ble_eq_true rfl, Nat.le_of_ble_eq_true rfl⟩) hS (fun q _ h => hFc q h) hFc (fun r8 u t H locs ht hvm w9 hB hz1 hk1 hS => ?_)
  obtain ⟨y10, hq11, hq12, hq13, hq14, hP1, hD1⟩ := hB
  try dsimp only at w9
  obtain ⟨hPa, hDa⟩ := hJn (w1 := [(m0, .inr (11, oX11 ra y10))]) hk1 ht hP1 hD1
  clear hP hD hPc hDc hFc hJn hP1 hD1 hk1
  have hP : va_P (dC, dI) vwCl [(ra 2, .inl (kI, 8, .inl q_told)), (m0, .inr (11, oX11 ra y10))] H := hPa
  have hD : va_D A [(ra 2, .inl (kI, 8, .inl q_told)), (m0, .inr (11, oX11 ra y10))] := hDa
  clear hPa hDa
  refine W.widen (k := 0) (n := 0) (Nat.le_of_ble_eq_true rfl) (Nat.le_of_ble_eq_true rfl) ?_
  obtain rfl : r8 = 0 := iv_one w9 (by decide)
  have hPD9 := cl_s (wc := [(m0, .inr (11, oX11 ra y10)), (ra 2, .inl (kI, 8, .inl q_told))]) hP hD [1, 0] rfl (by decide +kernel)
  have hP9 := hPD9.1
  have hD9 := hPD9.2
  exact W.iret (v := 0) hx hb hr (fun t ht hW => ⟨⟨0, (), rfl, ivk_0, y10, hq11, (show y10 0 = 1 from hq12), (show y10 1 = x0 1 from hq13), (show y10 10 = x0 10 from hq14), by rw [ht]; exact hP9, hD9⟩, hS.F ht⟩) hS.2.2 dX11_link_55
def rm_s11_link_w0 : Room := { frames := 1, cells := 0, slots := 0, locals := 22 }
set_option maxHeartbeats 4000000 in
set_option maxRecDepth 100000 in
theorem s11_link_w0 (l : Launch) (dC : Nat → ClassId) (dI : Nat → Nat → Nat) (kB kI kJ kZ kC kS : ClassId) (sz : Nat) (m0 : Nat) (ra : Nat → Nat) (x0 : Nat → Int32) (q_told : Nat → Int32) (q_from : Nat → Int32) (p0 : Int32) (hX : fI lX11 hX11 x0) (hq_told : fI lTold hTold q_told) (hq_from : fI (fun _ => 0) (fun _ => 11) q_from) (hp0 : iv 0 19 p0) (hc : p0 < q_told 1) : Met l yX11_link wsX11_link rm_s11_link_w0 (va_Pc [.ref m0, .int p0, .int 0] (fun U => U.heap.size = sz ∧ va_P (dC, dI) vwCl [(m0, .inr (11, oX11 ra x0)), (ra 2, .inl (kI, 8, .inl q_told)), (ra 8, .inl (kI, 40, .inl q_from))] U.heap ∧ kE dC dI kB kI kJ kZ kC kS U ∧ va_D (fun _ => True) [(m0, .inr (11, oX11 ra x0)), (ra 2, .inl (kI, 8, .inl q_told)), (ra 8, .inl (kI, 40, .inl q_from))])) (va_Qi (fun (r : Int32) (_ : Unit) => r = q_from p0.toNatClampNeg) (fun _ t => ∃ (x0' : Nat → Int32), fI lX11 hX11 x0' ∧ (x0' 0 = 0) ∧ (x0' 1 = x0 1) ∧ (x0' 10 = x0 10) ∧ va_P (dC, dI) vwCl [(m0, .inr (11, oX11 ra x0')), (ra 2, .inl (kI, 8, .inl q_told)), (ra 8, .inl (kI, 40, .inl q_from))] t.heap ∧ va_D (va_A [(m0, .inr (11, oX11 ra x0)), (ra 2, .inl (kI, 8, .inl q_told)), (ra 8, .inl (kI, 40, .inl q_from))] sz) [(m0, .inr (11, oX11 ra x0')), (ra 2, .inl (kI, 8, .inl q_told)), (ra 8, .inl (kI, 40, .inl q_from))]) (va_A [(m0, .inr (11, oX11 ra x0)), (ra 2, .inl (kI, 8, .inl q_told)), (ra 8, .inl (kI, 40, .inl q_from))] sz)) 0 0 (va_A [(m0, .inr (11, oX11 ra x0)), (ra 2, .inl (kI, 8, .inl q_told)), (ra 8, .inl (kI, 40, .inl q_from))] sz) := by
  refine Met.ofW (cc := cX11_link) (maxL := 3) (ret := (some .int)) (by decide) rfl ?_
  intro p e s m args0 below meth c s₁ B hml hv
  obtain ⟨hargs, hsz, hP, hE, hD0⟩ := hv
  have hx := B.exec
  have hb := B.bytes
  have hr := B.returns
  have hts := atoms_spec (ws := wsX11_link) B.pre
  have hown : s.vm.findClass RX11 = some m.cls := findClass_of_methodNamed B.named
  have hlocks := B.notSynchronized
  have hK := hE.1
  have hin11 : ∀ w ∈ wsX110, w ∈ wsX11_link := fun _ h9 => List.mem_cons_of_mem _ (List.mem_append_right _ h9)
  have hw_0 := hts (.fieldLink RX11 142 "PathProberModel" "code" "I") (List.mem_of_getElem? (i := 1) rfl)
  have hw_1 := hts (.fieldLink RX11 53 "PathProberModel" "from" "[I") (List.mem_of_getElem? (i := 2) rfl)
  subst hsz
  have hD := hD0.self (sz := s.heap.size)
  generalize hAe : va_A [(m0, .inr (11, oX11 ra x0)), (ra 2, .inl (kI, 8, .inl q_told)), (ra 8, .inl (kI, 40, .inl q_from))] s.heap.size = A at hD ⊢
  have hA : ∀ q : Nat, s.heap.size ≤ q → A q := fun q h => by rw [← hAe]; exact Or.inr h
  have hS : va_S A s.heap s.heap [] := va_S.rf
  have hP : va_P (dC, dI) vwCl [(m0, .inr (11, oX11 ra x0)), (ra 2, .inl (kI, 8, .inl q_told)), (ra 8, .inl (kI, 40, .inl q_from))] s.heap := hP
  have hl := lv_entry ([.ref m0, .int p0, .int 0]) (n := 3) (Nat.le_of_ble_eq_true rfl)
  have hla : entryFrame m args0 3 = entryFrame m ([.ref m0, .int p0, .int 0] : List Value).toArray 3 := by rw [hargs]
  rw [hla, lg_entry_eq]
  generalize (lg_sl ([.ref m0, .int p0, .int 0]) ++ List.replicate (3 - (lg_sl ([.ref m0, .int p0, .int 0])).length) Slot.unset).toArray = ls at hl ⊢
  have hl : lv_has ls 3 [(0, .ref m0), (1, .int p0), (2, .int 0)] := hl
  refine lv_aload_n hx hb dX11_link_0 rfl (lv_at hl 0 rfl) ?_
  refine lv_iconst (v := 0) hx hb dX11_link_1 ic_0 ?_
  refine va_put (D := (dC, dI)) (ci := 11) (v := .int 0) (ty := .int) (C := RX11) (T := TX11) (N := 61) hx hb hts hin11 tyX11 tyX11_ok nmX11 hown hK hP hD hS 0 rfl rfl 2 (by decide) hw_0 (fun _ h9 => h9) rfl (by decide +kernel) rfl rfl (Nat.le_of_ble_eq_true rfl) dX11_link_2 (fun H locs hPa hDa hS => ?_)
  clear hP hD
  have hP : va_P (dC, dI) vwCl [(m0, .inr (11, oX11 ra (upd x0 0 0))), (ra 2, .inl (kI, 8, .inl q_told)), (ra 8, .inl (kI, 40, .inl q_from))] H := hPa
  have hD : va_D A [(m0, .inr (11, oX11 ra (upd x0 0 0))), (ra 2, .inl (kI, 8, .inl q_told)), (ra 8, .inl (kI, 40, .inl q_from))] := hDa
  clear hPa hDa
  refine lv_iload_n hx hb dX11_link_5 rfl (lv_at hl 1 rfl) ?_
  refine lv_iconst (v := 0) hx hb dX11_link_6 ic_0 ?_
  refine lv_aload_n hx hb dX11_link_7 rfl (lv_at hl 0 rfl) ?_
  obtain ⟨hPc, hDc, hFc, hJn⟩ := cl_a (wc := [(m0, .inr (11, oX11 ra (upd x0 0 0))), (ra 2, .inl (kI, 8, .inl q_told))]) (wr := [(ra 8, .inl (kI, 40, .inl q_from))]) hP hD hS hA [0, 1] [2] rfl rfl (by decide +kernel)
  refine va_calli (va_runV (As := []) (rest := [.int 0, .int p0]) ⟨hx, hb, hml, hown, hts⟩ (s11_links l dC dI kB kI kJ kZ kC kS H.size m0 ra (upd x0 0 0) q_told ((fI_u hX (k := 0) ((iv_w ivk_0 (by decide) (by decide))))) (hq_told)) (cwV 0 hts gX11_link_X11_links rfl rfl rfl (by decide +kernel) ⟨Nat.le_of_ble_eq_true rfl, Nat.le_of_ble_eq_true rfl⟩) ⟨fun a U g mk q => by obtain ⟨q0, q1, qP, qE, qD⟩ := q; exact ⟨q0, q1, qP, kE_call qE, qD⟩, va_recv hK hP (ci := 11) (q0 := 0) rfl rfl, fun U hU hW => ⟨rfl, by rw [hU], by rw [hU]; exact hPc, kE_warm hW hE, hDc.weaken (fun _ _ _ _ => trivial)⟩⟩ rfl rfl hl.1 rfl (lv_room (Nat.le_of_ble_eq_true rfl)) dX11_link_8 ⟨Nat.le_of_ble_eq_true rfl, Nat.le_of_ble_eq_true rfl⟩) hS (fun q _ h => hFc q h) hFc (fun r1 u t H locs ht hvm w2 hB hz1 hk1 hS => ?_)
  obtain ⟨hP1, hD1⟩ := hB
  try dsimp only at w2
  obtain ⟨hPa, hDa⟩ := hJn (w1 := [(m0, .inr (11, oX11 ra (upd x0 0 0))), (ra 2, .inl (kI, 8, .inl q_told))]) hk1 ht hP1 hD1
  clear hP hD hPc hDc hFc hJn hP1 hD1 hk1
  have hP : va_P (dC, dI) vwCl [(ra 8, .inl (kI, 40, .inl q_from)), (m0, .inr (11, oX11 ra (upd x0 0 0))), (ra 2, .inl (kI, 8, .inl q_told))] H := hPa
  have hD : va_D A [(ra 8, .inl (kI, 40, .inl q_from)), (m0, .inr (11, oX11 ra (upd x0 0 0))), (ra 2, .inl (kI, 8, .inl q_told))] := hDa
  clear hPa hDa
  refine W.widen (k := 0) (n := 0) (Nat.le_of_ble_eq_true rfl) (Nat.le_of_ble_eq_true rfl) ?_
  subst w2
  refine lv_iconst (v := 1) hx hb dX11_link_11 ic_1 ?_
  refine lv_isub hx hb dX11_link_12 ?_
  have b3 : iv (-1) 19 ((q_told 1) - 1) := iv_sub (hq_told 1 : iv 0 20 (q_told 1)) ivk_1 (by decide) (by decide) (by decide) (by decide)
  obtain ⟨hPc, hDc, hFc, hJn⟩ := cl_a (wc := []) (wr := [(ra 8, .inl (kI, 40, .inl q_from)), (m0, .inr (11, oX11 ra (upd x0 0 0))), (ra 2, .inl (kI, 8, .inl q_told))]) hP hD hS hA [] [0, 1, 2] rfl rfl (by decide +kernel)
  refine va_calli (va_runS (As := [.int p0, .int 0, .int ((q_told 1) - 1)]) (rest := []) ⟨hx, hb, hml, hown, hts⟩ (s11_isIn_in l dC dI kB kI kJ kZ kC kS H.size p0 ((q_told 1) - 1) (hp0) ((sub1_le hc (hq_told 1)))) (va_cwS 3 hts gX11_link_X11_isIn rfl rfl rfl (by decide +kernel) ⟨Nat.le_of_ble_eq_true rfl, Nat.le_of_ble_eq_true rfl⟩) ⟨fun a U g mk q => by obtain ⟨q0, q1, qP, qE, qD⟩ := q; exact ⟨q0, q1, qP, kE_call qE, qD⟩, fun U hU hW => ⟨rfl, by rw [hU], by rw [hU]; exact hPc, kE_warm hW hE, hDc.weaken (fun _ _ _ _ => trivial)⟩⟩ rfl rfl hl.1 rfl (lv_room (Nat.le_of_ble_eq_true rfl)) dX11_link_13 ⟨Nat.le_of_ble_eq_true rfl, Nat.le_of_ble_eq_true rfl⟩) hS (fun q _ h => hFc q h) hFc (fun r4 u t H locs ht hvm w5 hB hz1 hk1 hS => ?_)
  obtain ⟨hP1, hD1⟩ := hB
  try dsimp only at w5
  obtain ⟨hPa, hDa⟩ := hJn (w1 := []) hk1 ht hP1 hD1
  clear hP hD hPc hDc hFc hJn hP1 hD1 hk1
  have hP : va_P (dC, dI) vwCl [(ra 8, .inl (kI, 40, .inl q_from)), (m0, .inr (11, oX11 ra (upd x0 0 0))), (ra 2, .inl (kI, 8, .inl q_told))] H := hPa
  have hD : va_D A [(ra 8, .inl (kI, 40, .inl q_from)), (m0, .inr (11, oX11 ra (upd x0 0 0))), (ra 2, .inl (kI, 8, .inl q_told))] := hDa
  clear hPa hDa
  refine W.widen (k := 0) (n := 0) (Nat.le_of_ble_eq_true rfl) (Nat.le_of_ble_eq_true rfl) ?_
  obtain rfl : r4 = 1 := iv_one w5 (by decide)
  refine lv_if_eq (tgt := 50) hx hb dX11_link_16 rfl (fun c9 => absurd c9 (by decide)) (fun _ => ?_)
  refine lv_iload_n hx hb dX11_link_19 rfl (lv_at hl 2 rfl) ?_
  refine lv_iconst (v := 0) hx hb dX11_link_20 ic_0 ?_
  refine lv_iconst (v := 1) hx hb dX11_link_21 ic_1 ?_
  obtain ⟨hPc, hDc, hFc, hJn⟩ := cl_a (wc := []) (wr := [(ra 8, .inl (kI, 40, .inl q_from)), (m0, .inr (11, oX11 ra (upd x0 0 0))), (ra 2, .inl (kI, 8, .inl q_told))]) hP hD hS hA [] [0, 1, 2] rfl rfl (by decide +kernel)
  refine va_calli (va_runS (As := [.int 0, .int 0, .int 1]) (rest := []) ⟨hx, hb, hml, hown, hts⟩ (s11_isIn_w0 l dC dI kB kI kJ kZ kC kS H.size ) (va_cwS 3 hts gX11_link_X11_isIn rfl rfl rfl (by decide +kernel) ⟨Nat.le_of_ble_eq_true rfl, Nat.le_of_ble_eq_true rfl⟩) ⟨fun a U g mk q => by obtain ⟨q0, q1, qP, qE, qD⟩ := q; exact ⟨q0, q1, qP, kE_call qE, qD⟩, fun U hU hW => ⟨rfl, by rw [hU], by rw [hU]; exact hPc, kE_warm hW hE, hDc.weaken (fun _ _ _ _ => trivial)⟩⟩ rfl rfl hl.1 rfl (lv_room (Nat.le_of_ble_eq_true rfl)) dX11_link_22 ⟨Nat.le_of_ble_eq_true rfl, Nat.le_of_ble_eq_true rfl⟩) hS (fun q _ h => hFc q h) hFc (fun r6 u t H locs ht hvm w7 hB hz1 hk1 hS => ?_)
  obtain ⟨hP1, hD1⟩ := hB
  try dsimp only at w7
  obtain ⟨hPa, hDa⟩ := hJn (w1 := []) hk1 ht hP1 hD1
  clear hP hD hPc hDc hFc hJn hP1 hD1 hk1
  have hP : va_P (dC, dI) vwCl [(ra 8, .inl (kI, 40, .inl q_from)), (m0, .inr (11, oX11 ra (upd x0 0 0))), (ra 2, .inl (kI, 8, .inl q_told))] H := hPa
  have hD : va_D A [(ra 8, .inl (kI, 40, .inl q_from)), (m0, .inr (11, oX11 ra (upd x0 0 0))), (ra 2, .inl (kI, 8, .inl q_told))] := hDa
  clear hPa hDa
  refine W.widen (k := 0) (n := 0) (Nat.le_of_ble_eq_true rfl) (Nat.le_of_ble_eq_true rfl) ?_
  obtain rfl : r6 = 1 := iv_one w7 (by decide)
  refine lv_if_eq (tgt := 50) hx hb dX11_link_25 rfl (fun c9 => absurd c9 (by decide)) (fun _ => ?_)
  refine lv_iload_n hx hb dX11_link_28 rfl (lv_at hl 2 rfl) ?_
  refine lv_if_ne (tgt := 41) hx hb dX11_link_29 rfl (fun c9 => absurd (by decide) c9) (fun _ => ?_)
  refine lv_aload_n hx hb dX11_link_32 rfl (lv_at hl 0 rfl) ?_
  refine va_get (D := (dC, dI)) (ci := 11) (v := .ref (ra 8)) (C := RX11) (T := TX11) (N := 61) hx hb hts hin11 hown hK hP 1 rfl rfl 9 (Nat.le_of_ble_eq_true rfl) hw_1 (fun _ h9 => h9) rfl dX11_link_33 ?_
  refine lv_iload_n hx hb dX11_link_36 rfl (lv_at hl 1 rfl) ?_
  refine va_iald hx hb hK hP 0 1 rfl rfl (iv_in hp0 (by decide) (by decide)) dX11_link_37 ?_
  have b8 : iv 0 11 (q_from p0.toNatClampNeg) := hq_from _
  refine lv_goto (tgt := 55) hx hb dX11_link_38 rfl ?_
  have hPD9 := cl_s (wc := [(m0, .inr (11, oX11 ra (upd x0 0 0))), (ra 2, .inl (kI, 8, .inl q_told)), (ra 8, .inl (kI, 40, .inl q_from))]) hP hD [1, 2, 0] rfl (by decide +kernel)
  have hP9 := hPD9.1
  have hD9 := hPD9.2
  exact W.iret (v := q_from p0.toNatClampNeg) hx hb hr (fun t ht hW => ⟨⟨q_from p0.toNatClampNeg, (), rfl, rfl, upd x0 0 0, (fI_u hX (k := 0) ((iv_w ivk_0 (by decide) (by decide)))), (show 0 = 0 from rfl), (show x0 1 = x0 1 from rfl), (show x0 10 = x0 10 from rfl), by rw [ht]; exact hP9, hD9⟩, hS.F ht⟩) hS.2.2 dX11_link_55
def rm_s11_link_w1 : Room := { frames := 1, cells := 0, slots := 0, locals := 22 }
set_option maxHeartbeats 4000000 in
set_option maxRecDepth 100000 in
theorem s11_link_w1 (l : Launch) (dC : Nat → ClassId) (dI : Nat → Nat → Nat) (kB kI kJ kZ kC kS : ClassId) (sz : Nat) (m0 : Nat) (ra : Nat → Nat) (x0 : Nat → Int32) (q_told : Nat → Int32) (q_to : Nat → Int32) (p0 : Int32) (hX : fI lX11 hX11 x0) (hq_told : fI lTold hTold q_told) (hq_to : fI (fun _ => 0) (fun _ => 11) q_to) (hp0 : iv 0 19 p0) (hc : p0 < q_told 1) : Met l yX11_link wsX11_link rm_s11_link_w1 (va_Pc [.ref m0, .int p0, .int 1] (fun U => U.heap.size = sz ∧ va_P (dC, dI) vwCl [(m0, .inr (11, oX11 ra x0)), (ra 2, .inl (kI, 8, .inl q_told)), (ra 9, .inl (kI, 40, .inl q_to))] U.heap ∧ kE dC dI kB kI kJ kZ kC kS U ∧ va_D (fun _ => True) [(m0, .inr (11, oX11 ra x0)), (ra 2, .inl (kI, 8, .inl q_told)), (ra 9, .inl (kI, 40, .inl q_to))])) (va_Qi (fun (r : Int32) (_ : Unit) => r = q_to p0.toNatClampNeg) (fun _ t => ∃ (x0' : Nat → Int32), fI lX11 hX11 x0' ∧ (x0' 0 = 0) ∧ (x0' 1 = x0 1) ∧ (x0' 10 = x0 10) ∧ va_P (dC, dI) vwCl [(m0, .inr (11, oX11 ra x0')), (ra 2, .inl (kI, 8, .inl q_told)), (ra 9, .inl (kI, 40, .inl q_to))] t.heap ∧ va_D (va_A [(m0, .inr (11, oX11 ra x0)), (ra 2, .inl (kI, 8, .inl q_told)), (ra 9, .inl (kI, 40, .inl q_to))] sz) [(m0, .inr (11, oX11 ra x0')), (ra 2, .inl (kI, 8, .inl q_told)), (ra 9, .inl (kI, 40, .inl q_to))]) (va_A [(m0, .inr (11, oX11 ra x0)), (ra 2, .inl (kI, 8, .inl q_told)), (ra 9, .inl (kI, 40, .inl q_to))] sz)) 0 0 (va_A [(m0, .inr (11, oX11 ra x0)), (ra 2, .inl (kI, 8, .inl q_told)), (ra 9, .inl (kI, 40, .inl q_to))] sz) := by
  refine Met.ofW (cc := cX11_link) (maxL := 3) (ret := (some .int)) (by decide) rfl ?_
  intro p e s m args0 below meth c s₁ B hml hv
  obtain ⟨hargs, hsz, hP, hE, hD0⟩ := hv
  have hx := B.exec
  have hb := B.bytes
  have hr := B.returns
  have hts := atoms_spec (ws := wsX11_link) B.pre
  have hown : s.vm.findClass RX11 = some m.cls := findClass_of_methodNamed B.named
  have hlocks := B.notSynchronized
  have hK := hE.1
  have hin11 : ∀ w ∈ wsX110, w ∈ wsX11_link := fun _ h9 => List.mem_cons_of_mem _ (List.mem_append_right _ h9)
  have hw_0 := hts (.fieldLink RX11 142 "PathProberModel" "code" "I") (List.mem_of_getElem? (i := 1) rfl)
  have hw_1 := hts (.fieldLink RX11 56 "PathProberModel" "to" "[I") (List.mem_of_getElem? (i := 3) rfl)
  subst hsz
  have hD := hD0.self (sz := s.heap.size)
  generalize hAe : va_A [(m0, .inr (11, oX11 ra x0)), (ra 2, .inl (kI, 8, .inl q_told)), (ra 9, .inl (kI, 40, .inl q_to))] s.heap.size = A at hD ⊢
  have hA : ∀ q : Nat, s.heap.size ≤ q → A q := fun q h => by rw [← hAe]; exact Or.inr h
  have hS : va_S A s.heap s.heap [] := va_S.rf
  have hP : va_P (dC, dI) vwCl [(m0, .inr (11, oX11 ra x0)), (ra 2, .inl (kI, 8, .inl q_told)), (ra 9, .inl (kI, 40, .inl q_to))] s.heap := hP
  have hl := lv_entry ([.ref m0, .int p0, .int 1]) (n := 3) (Nat.le_of_ble_eq_true rfl)
  have hla : entryFrame m args0 3 = entryFrame m ([.ref m0, .int p0, .int 1] : List Value).toArray 3 := by rw [hargs]
  rw [hla, lg_entry_eq]
  generalize (lg_sl ([.ref m0, .int p0, .int 1]) ++ List.replicate (3 - (lg_sl ([.ref m0, .int p0, .int 1])).length) Slot.unset).toArray = ls at hl ⊢
  have hl : lv_has ls 3 [(0, .ref m0), (1, .int p0), (2, .int 1)] := hl
  refine lv_aload_n hx hb dX11_link_0 rfl (lv_at hl 0 rfl) ?_
  refine lv_iconst (v := 0) hx hb dX11_link_1 ic_0 ?_
  refine va_put (D := (dC, dI)) (ci := 11) (v := .int 0) (ty := .int) (C := RX11) (T := TX11) (N := 61) hx hb hts hin11 tyX11 tyX11_ok nmX11 hown hK hP hD hS 0 rfl rfl 2 (by decide) hw_0 (fun _ h9 => h9) rfl (by decide +kernel) rfl rfl (Nat.le_of_ble_eq_true rfl) dX11_link_2 (fun H locs hPa hDa hS => ?_)
  clear hP hD
  have hP : va_P (dC, dI) vwCl [(m0, .inr (11, oX11 ra (upd x0 0 0))), (ra 2, .inl (kI, 8, .inl q_told)), (ra 9, .inl (kI, 40, .inl q_to))] H := hPa
  have hD : va_D A [(m0, .inr (11, oX11 ra (upd x0 0 0))), (ra 2, .inl (kI, 8, .inl q_told)), (ra 9, .inl (kI, 40, .inl q_to))] := hDa
  clear hPa hDa
  refine lv_iload_n hx hb dX11_link_5 rfl (lv_at hl 1 rfl) ?_
  refine lv_iconst (v := 0) hx hb dX11_link_6 ic_0 ?_
  refine lv_aload_n hx hb dX11_link_7 rfl (lv_at hl 0 rfl) ?_
  obtain ⟨hPc, hDc, hFc, hJn⟩ := cl_a (wc := [(m0, .inr (11, oX11 ra (upd x0 0 0))), (ra 2, .inl (kI, 8, .inl q_told))]) (wr := [(ra 9, .inl (kI, 40, .inl q_to))]) hP hD hS hA [0, 1] [2] rfl rfl (by decide +kernel)
  refine va_calli (va_runV (As := []) (rest := [.int 0, .int p0]) ⟨hx, hb, hml, hown, hts⟩ (s11_links l dC dI kB kI kJ kZ kC kS H.size m0 ra (upd x0 0 0) q_told ((fI_u hX (k := 0) ((iv_w ivk_0 (by decide) (by decide))))) (hq_told)) (cwV 0 hts gX11_link_X11_links rfl rfl rfl (by decide +kernel) ⟨Nat.le_of_ble_eq_true rfl, Nat.le_of_ble_eq_true rfl⟩) ⟨fun a U g mk q => by obtain ⟨q0, q1, qP, qE, qD⟩ := q; exact ⟨q0, q1, qP, kE_call qE, qD⟩, va_recv hK hP (ci := 11) (q0 := 0) rfl rfl, fun U hU hW => ⟨rfl, by rw [hU], by rw [hU]; exact hPc, kE_warm hW hE, hDc.weaken (fun _ _ _ _ => trivial)⟩⟩ rfl rfl hl.1 rfl (lv_room (Nat.le_of_ble_eq_true rfl)) dX11_link_8 ⟨Nat.le_of_ble_eq_true rfl, Nat.le_of_ble_eq_true rfl⟩) hS (fun q _ h => hFc q h) hFc (fun r1 u t H locs ht hvm w2 hB hz1 hk1 hS => ?_)
  obtain ⟨hP1, hD1⟩ := hB
  try dsimp only at w2
  obtain ⟨hPa, hDa⟩ := hJn (w1 := [(m0, .inr (11, oX11 ra (upd x0 0 0))), (ra 2, .inl (kI, 8, .inl q_told))]) hk1 ht hP1 hD1
  clear hP hD hPc hDc hFc hJn hP1 hD1 hk1
  have hP : va_P (dC, dI) vwCl [(ra 9, .inl (kI, 40, .inl q_to)), (m0, .inr (11, oX11 ra (upd x0 0 0))), (ra 2, .inl (kI, 8, .inl q_told))] H := hPa
  have hD : va_D A [(ra 9, .inl (kI, 40, .inl q_to)), (m0, .inr (11, oX11 ra (upd x0 0 0))), (ra 2, .inl (kI, 8, .inl q_told))] := hDa
  clear hPa hDa
  refine W.widen (k := 0) (n := 0) (Nat.le_of_ble_eq_true rfl) (Nat.le_of_ble_eq_true rfl) ?_
  subst w2
  refine lv_iconst (v := 1) hx hb dX11_link_11 ic_1 ?_
  refine lv_isub hx hb dX11_link_12 ?_
  have b3 : iv (-1) 19 ((q_told 1) - 1) := iv_sub (hq_told 1 : iv 0 20 (q_told 1)) ivk_1 (by decide) (by decide) (by decide) (by decide)
  obtain ⟨hPc, hDc, hFc, hJn⟩ := cl_a (wc := []) (wr := [(ra 9, .inl (kI, 40, .inl q_to)), (m0, .inr (11, oX11 ra (upd x0 0 0))), (ra 2, .inl (kI, 8, .inl q_told))]) hP hD hS hA [] [0, 1, 2] rfl rfl (by decide +kernel)
  refine va_calli (va_runS (As := [.int p0, .int 0, .int ((q_told 1) - 1)]) (rest := []) ⟨hx, hb, hml, hown, hts⟩ (s11_isIn_in l dC dI kB kI kJ kZ kC kS H.size p0 ((q_told 1) - 1) (hp0) ((sub1_le hc (hq_told 1)))) (va_cwS 3 hts gX11_link_X11_isIn rfl rfl rfl (by decide +kernel) ⟨Nat.le_of_ble_eq_true rfl, Nat.le_of_ble_eq_true rfl⟩) ⟨fun a U g mk q => by obtain ⟨q0, q1, qP, qE, qD⟩ := q; exact ⟨q0, q1, qP, kE_call qE, qD⟩, fun U hU hW => ⟨rfl, by rw [hU], by rw [hU]; exact hPc, kE_warm hW hE, hDc.weaken (fun _ _ _ _ => trivial)⟩⟩ rfl rfl hl.1 rfl (lv_room (Nat.le_of_ble_eq_true rfl)) dX11_link_13 ⟨Nat.le_of_ble_eq_true rfl, Nat.le_of_ble_eq_true rfl⟩) hS (fun q _ h => hFc q h) hFc (fun r4 u t H locs ht hvm w5 hB hz1 hk1 hS => ?_)
  obtain ⟨hP1, hD1⟩ := hB
  try dsimp only at w5
  obtain ⟨hPa, hDa⟩ := hJn (w1 := []) hk1 ht hP1 hD1
  clear hP hD hPc hDc hFc hJn hP1 hD1 hk1
  have hP : va_P (dC, dI) vwCl [(ra 9, .inl (kI, 40, .inl q_to)), (m0, .inr (11, oX11 ra (upd x0 0 0))), (ra 2, .inl (kI, 8, .inl q_told))] H := hPa
  have hD : va_D A [(ra 9, .inl (kI, 40, .inl q_to)), (m0, .inr (11, oX11 ra (upd x0 0 0))), (ra 2, .inl (kI, 8, .inl q_told))] := hDa
  clear hPa hDa
  refine W.widen (k := 0) (n := 0) (Nat.le_of_ble_eq_true rfl) (Nat.le_of_ble_eq_true rfl) ?_
  obtain rfl : r4 = 1 := iv_one w5 (by decide)
  refine lv_if_eq (tgt := 50) hx hb dX11_link_16 rfl (fun c9 => absurd c9 (by decide)) (fun _ => ?_)
  refine lv_iload_n hx hb dX11_link_19 rfl (lv_at hl 2 rfl) ?_
  refine lv_iconst (v := 0) hx hb dX11_link_20 ic_0 ?_
  refine lv_iconst (v := 1) hx hb dX11_link_21 ic_1 ?_
  obtain ⟨hPc, hDc, hFc, hJn⟩ := cl_a (wc := []) (wr := [(ra 9, .inl (kI, 40, .inl q_to)), (m0, .inr (11, oX11 ra (upd x0 0 0))), (ra 2, .inl (kI, 8, .inl q_told))]) hP hD hS hA [] [0, 1, 2] rfl rfl (by decide +kernel)
  refine va_calli (va_runS (As := [.int 1, .int 0, .int 1]) (rest := []) ⟨hx, hb, hml, hown, hts⟩ (s11_isIn_w1 l dC dI kB kI kJ kZ kC kS H.size ) (va_cwS 3 hts gX11_link_X11_isIn rfl rfl rfl (by decide +kernel) ⟨Nat.le_of_ble_eq_true rfl, Nat.le_of_ble_eq_true rfl⟩) ⟨fun a U g mk q => by obtain ⟨q0, q1, qP, qE, qD⟩ := q; exact ⟨q0, q1, qP, kE_call qE, qD⟩, fun U hU hW => ⟨rfl, by rw [hU], by rw [hU]; exact hPc, kE_warm hW hE, hDc.weaken (fun _ _ _ _ => trivial)⟩⟩ rfl rfl hl.1 rfl (lv_room (Nat.le_of_ble_eq_true rfl)) dX11_link_22 ⟨Nat.le_of_ble_eq_true rfl, Nat.le_of_ble_eq_true rfl⟩) hS (fun q _ h => hFc q h) hFc (fun r6 u t H locs ht hvm w7 hB hz1 hk1 hS => ?_)
  obtain ⟨hP1, hD1⟩ := hB
  try dsimp only at w7
  obtain ⟨hPa, hDa⟩ := hJn (w1 := []) hk1 ht hP1 hD1
  clear hP hD hPc hDc hFc hJn hP1 hD1 hk1
  have hP : va_P (dC, dI) vwCl [(ra 9, .inl (kI, 40, .inl q_to)), (m0, .inr (11, oX11 ra (upd x0 0 0))), (ra 2, .inl (kI, 8, .inl q_told))] H := hPa
  have hD : va_D A [(ra 9, .inl (kI, 40, .inl q_to)), (m0, .inr (11, oX11 ra (upd x0 0 0))), (ra 2, .inl (kI, 8, .inl q_told))] := hDa
  clear hPa hDa
  refine W.widen (k := 0) (n := 0) (Nat.le_of_ble_eq_true rfl) (Nat.le_of_ble_eq_true rfl) ?_
  obtain rfl : r6 = 1 := iv_one w7 (by decide)
  refine lv_if_eq (tgt := 50) hx hb dX11_link_25 rfl (fun c9 => absurd c9 (by decide)) (fun _ => ?_)
  refine lv_iload_n hx hb dX11_link_28 rfl (lv_at hl 2 rfl) ?_
  refine lv_if_ne (tgt := 41) hx hb dX11_link_29 rfl (fun _ => ?_) (fun c9 => absurd c9 (by decide))
  refine lv_aload_n hx hb dX11_link_41 rfl (lv_at hl 0 rfl) ?_
  refine va_get (D := (dC, dI)) (ci := 11) (v := .ref (ra 9)) (C := RX11) (T := TX11) (N := 61) hx hb hts hin11 hown hK hP 1 rfl rfl 10 (Nat.le_of_ble_eq_true rfl) hw_1 (fun _ h9 => h9) rfl dX11_link_42 ?_
  refine lv_iload_n hx hb dX11_link_45 rfl (lv_at hl 1 rfl) ?_
  refine va_iald hx hb hK hP 0 1 rfl rfl (iv_in hp0 (by decide) (by decide)) dX11_link_46 ?_
  have b8 : iv 0 11 (q_to p0.toNatClampNeg) := hq_to _
  refine lv_goto (tgt := 55) hx hb dX11_link_47 rfl ?_
  have hPD9 := cl_s (wc := [(m0, .inr (11, oX11 ra (upd x0 0 0))), (ra 2, .inl (kI, 8, .inl q_told)), (ra 9, .inl (kI, 40, .inl q_to))]) hP hD [1, 2, 0] rfl (by decide +kernel)
  have hP9 := hPD9.1
  have hD9 := hPD9.2
  exact W.iret (v := q_to p0.toNatClampNeg) hx hb hr (fun t ht hW => ⟨⟨q_to p0.toNatClampNeg, (), rfl, rfl, upd x0 0 0, (fI_u hX (k := 0) ((iv_w ivk_0 (by decide) (by decide)))), (show 0 = 0 from rfl), (show x0 1 = x0 1 from rfl), (show x0 10 = x0 10 from rfl), by rw [ht]; exact hP9, hD9⟩, hS.F ht⟩) hS.2.2 dX11_link_55
